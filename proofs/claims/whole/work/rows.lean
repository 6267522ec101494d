section
-- ===== PART A: goes FIRST, ahead of the names: the tables' words, and 'selects' of the private methods out of them =====
/-- a private method of a class that the tables say can be made, by its rows of tables_1 -/
def lw_okq (q : MethodName × Nat) : Prop := (q.1.cls ≠ "java/lang/invoke/MethodHandle" ∧ q.1.cls ≠ "java/lang/invoke/VarHandle") ∧ Cond.instantiable q.1.cls q.2 ∈ tables_1 ∧ Cond.privateMethod q.1 ∈ tables_1 ∧ Cond.instanceMethod q.1 ∈ tables_1
theorem lw_p0 : lw_okq (⟨"ClockTeeth$Reader", "advance", "()V"⟩, 9) := ⟨⟨by decide +kernel, by decide +kernel⟩, List.mem_of_getElem? (i := 299) (by decide +kernel), List.mem_of_getElem? (i := 351) (by decide +kernel), List.mem_of_getElem? (i := 352) (by decide +kernel)⟩
theorem lw_p1 : lw_okq (⟨"ClockTeeth$Reader", "demand", "(ZI)V"⟩, 9) := ⟨⟨by decide +kernel, by decide +kernel⟩, List.mem_of_getElem? (i := 299) (by decide +kernel), List.mem_of_getElem? (i := 367) (by decide +kernel), List.mem_of_getElem? (i := 368) (by decide +kernel)⟩
theorem lw_p2 : lw_okq (⟨"ClockTeeth$Reader", "refuse", "(II)V"⟩, 9) := ⟨⟨by decide +kernel, by decide +kernel⟩, List.mem_of_getElem? (i := 299) (by decide +kernel), List.mem_of_getElem? (i := 371) (by decide +kernel), List.mem_of_getElem? (i := 372) (by decide +kernel)⟩
theorem lw_p3 : lw_okq (⟨"ClockTeeth$Reader", "readLine", "()V"⟩, 9) := ⟨⟨by decide +kernel, by decide +kernel⟩, List.mem_of_getElem? (i := 299) (by decide +kernel), List.mem_of_getElem? (i := 375) (by decide +kernel), List.mem_of_getElem? (i := 376) (by decide +kernel)⟩
theorem lw_p4 : lw_okq (⟨"ClockTeeth$Reader", "isName", "(Ljava/lang/String;)Z"⟩, 9) := ⟨⟨by decide +kernel, by decide +kernel⟩, List.mem_of_getElem? (i := 299) (by decide +kernel), List.mem_of_getElem? (i := 380) (by decide +kernel), List.mem_of_getElem? (i := 381) (by decide +kernel)⟩
theorem lw_p5 : lw_okq (⟨"ClockTeeth$Reader", "readFigure", "()V"⟩, 9) := ⟨⟨by decide +kernel, by decide +kernel⟩, List.mem_of_getElem? (i := 299) (by decide +kernel), List.mem_of_getElem? (i := 432) (by decide +kernel), List.mem_of_getElem? (i := 433) (by decide +kernel)⟩
theorem lw_p6 : lw_okq (⟨"ClockTeeth$Reader", "number", "(II)I"⟩, 9) := ⟨⟨by decide +kernel, by decide +kernel⟩, List.mem_of_getElem? (i := 299) (by decide +kernel), List.mem_of_getElem? (i := 440) (by decide +kernel), List.mem_of_getElem? (i := 441) (by decide +kernel)⟩
theorem lw_p7 : lw_okq (⟨"ClockTeeth$Reader", "endLine", "()V"⟩, 9) := ⟨⟨by decide +kernel, by decide +kernel⟩, List.mem_of_getElem? (i := 299) (by decide +kernel), List.mem_of_getElem? (i := 444) (by decide +kernel), List.mem_of_getElem? (i := 445) (by decide +kernel)⟩
theorem lw_p8 : lw_okq (⟨"ClockTeeth$Reader", "readStick", "()V"⟩, 9) := ⟨⟨by decide +kernel, by decide +kernel⟩, List.mem_of_getElem? (i := 299) (by decide +kernel), List.mem_of_getElem? (i := 449) (by decide +kernel), List.mem_of_getElem? (i := 450) (by decide +kernel)⟩
theorem lw_p9 : lw_okq (⟨"ClockTeeth$Reader", "readReach", "()V"⟩, 9) := ⟨⟨by decide +kernel, by decide +kernel⟩, List.mem_of_getElem? (i := 299) (by decide +kernel), List.mem_of_getElem? (i := 455) (by decide +kernel), List.mem_of_getElem? (i := 456) (by decide +kernel)⟩
theorem lw_p10 : lw_okq (⟨"ClockTeeth$Reader", "readVote", "()V"⟩, 9) := ⟨⟨by decide +kernel, by decide +kernel⟩, List.mem_of_getElem? (i := 299) (by decide +kernel), List.mem_of_getElem? (i := 460) (by decide +kernel), List.mem_of_getElem? (i := 461) (by decide +kernel)⟩
theorem lw_p11 : lw_okq (⟨"ClockTeeth", "isFigure", "(I)Z"⟩, 13) := ⟨⟨by decide +kernel, by decide +kernel⟩, List.mem_of_getElem? (i := 18) (by decide +kernel), List.mem_of_getElem? (i := 501) (by decide +kernel), List.mem_of_getElem? (i := 502) (by decide +kernel)⟩
theorem lw_p12 : lw_okq (⟨"ClockTeeth$Finder", "choose", "([LClockTeeth$Figure;I)V"⟩, 7) := ⟨⟨by decide +kernel, by decide +kernel⟩, List.mem_of_getElem? (i := 190) (by decide +kernel), List.mem_of_getElem? (i := 545) (by decide +kernel), List.mem_of_getElem? (i := 546) (by decide +kernel)⟩
theorem lw_p13 : lw_okq (⟨"ClockTeeth$Finder", "addLevel", "(LClockTeeth$Figure;)V"⟩, 7) := ⟨⟨by decide +kernel, by decide +kernel⟩, List.mem_of_getElem? (i := 190) (by decide +kernel), List.mem_of_getElem? (i := 549) (by decide +kernel), List.mem_of_getElem? (i := 550) (by decide +kernel)⟩
theorem lw_p14 : lw_okq (⟨"ClockTeeth$Finder", "meet", "(IJI)J"⟩, 7) := ⟨⟨by decide +kernel, by decide +kernel⟩, List.mem_of_getElem? (i := 190) (by decide +kernel), List.mem_of_getElem? (i := 573) (by decide +kernel), List.mem_of_getElem? (i := 574) (by decide +kernel)⟩
theorem lw_p15 : lw_okq (⟨"ClockTeeth", "isPair", "(II)Z"⟩, 13) := ⟨⟨by decide +kernel, by decide +kernel⟩, List.mem_of_getElem? (i := 18) (by decide +kernel), List.mem_of_getElem? (i := 613) (by decide +kernel), List.mem_of_getElem? (i := 614) (by decide +kernel)⟩
def lw_privs_1 : List (MethodName × Nat) := [(⟨"ClockTeeth$Reader", "advance", "()V"⟩, 9), (⟨"ClockTeeth$Reader", "demand", "(ZI)V"⟩, 9), (⟨"ClockTeeth$Reader", "refuse", "(II)V"⟩, 9), (⟨"ClockTeeth$Reader", "readLine", "()V"⟩, 9), (⟨"ClockTeeth$Reader", "isName", "(Ljava/lang/String;)Z"⟩, 9), (⟨"ClockTeeth$Reader", "readFigure", "()V"⟩, 9), (⟨"ClockTeeth$Reader", "number", "(II)I"⟩, 9), (⟨"ClockTeeth$Reader", "endLine", "()V"⟩, 9), (⟨"ClockTeeth$Reader", "readStick", "()V"⟩, 9), (⟨"ClockTeeth$Reader", "readReach", "()V"⟩, 9), (⟨"ClockTeeth$Reader", "readVote", "()V"⟩, 9), (⟨"ClockTeeth", "isFigure", "(I)Z"⟩, 13), (⟨"ClockTeeth$Finder", "choose", "([LClockTeeth$Figure;I)V"⟩, 7), (⟨"ClockTeeth$Finder", "addLevel", "(LClockTeeth$Figure;)V"⟩, 7), (⟨"ClockTeeth$Finder", "meet", "(IJI)J"⟩, 7), (⟨"ClockTeeth", "isPair", "(II)Z"⟩, 13)]
theorem lw_r1 : ∀ q ∈ lw_privs_1, lw_okq q := List.forall_mem_cons.mpr ⟨lw_p0, List.forall_mem_cons.mpr ⟨lw_p1, List.forall_mem_cons.mpr ⟨lw_p2, List.forall_mem_cons.mpr ⟨lw_p3, List.forall_mem_cons.mpr ⟨lw_p4, List.forall_mem_cons.mpr ⟨lw_p5, List.forall_mem_cons.mpr ⟨lw_p6, List.forall_mem_cons.mpr ⟨lw_p7, List.forall_mem_cons.mpr ⟨lw_p8, List.forall_mem_cons.mpr ⟨lw_p9, List.forall_mem_cons.mpr ⟨lw_p10, List.forall_mem_cons.mpr ⟨lw_p11, List.forall_mem_cons.mpr ⟨lw_p12, List.forall_mem_cons.mpr ⟨lw_p13, List.forall_mem_cons.mpr ⟨lw_p14, List.forall_mem_cons.mpr ⟨lw_p15, fun _ h => absurd h List.not_mem_nil⟩⟩⟩⟩⟩⟩⟩⟩⟩⟩⟩⟩⟩⟩⟩⟩
theorem lw_p16 : lw_okq (⟨"ClockTeeth", "isSome", "(I)Z"⟩, 13) := ⟨⟨by decide +kernel, by decide +kernel⟩, List.mem_of_getElem? (i := 18) (by decide +kernel), List.mem_of_getElem? (i := 625) (by decide +kernel), List.mem_of_getElem? (i := 626) (by decide +kernel)⟩
theorem lw_p17 : lw_okq (⟨"ClockTeeth$Clock", "startFirst", "(ILClockTeeth$Figure;I)Z"⟩, 10) := ⟨⟨by decide +kernel, by decide +kernel⟩, List.mem_of_getElem? (i := 43) (by decide +kernel), List.mem_of_getElem? (i := 716) (by decide +kernel), List.mem_of_getElem? (i := 717) (by decide +kernel)⟩
theorem lw_p18 : lw_okq (⟨"ClockTeeth", "addSight", "(IIZ)I"⟩, 13) := ⟨⟨by decide +kernel, by decide +kernel⟩, List.mem_of_getElem? (i := 18) (by decide +kernel), List.mem_of_getElem? (i := 777) (by decide +kernel), List.mem_of_getElem? (i := 778) (by decide +kernel)⟩
theorem lw_p19 : lw_okq (⟨"ClockTeeth", "countFrights", "(JI)V"⟩, 13) := ⟨⟨by decide +kernel, by decide +kernel⟩, List.mem_of_getElem? (i := 18) (by decide +kernel), List.mem_of_getElem? (i := 817) (by decide +kernel), List.mem_of_getElem? (i := 818) (by decide +kernel)⟩
theorem lw_p20 : lw_okq (⟨"ClockTeeth", "addSightOf", "(LClockTeeth$Sheet;I)Z"⟩, 13) := ⟨⟨by decide +kernel, by decide +kernel⟩, List.mem_of_getElem? (i := 18) (by decide +kernel), List.mem_of_getElem? (i := 874) (by decide +kernel), List.mem_of_getElem? (i := 875) (by decide +kernel)⟩
theorem lw_p21 : lw_okq (⟨"ClockTeethModel", "firstDraft", "()V"⟩, 27) := ⟨⟨by decide +kernel, by decide +kernel⟩, List.mem_of_getElem? (i := 886) (by decide +kernel), List.mem_of_getElem? (i := 893) (by decide +kernel), List.mem_of_getElem? (i := 894) (by decide +kernel)⟩
theorem lw_p22 : lw_okq (⟨"ClockTeethModel", "keepDraft", "()V"⟩, 27) := ⟨⟨by decide +kernel, by decide +kernel⟩, List.mem_of_getElem? (i := 886) (by decide +kernel), List.mem_of_getElem? (i := 897) (by decide +kernel), List.mem_of_getElem? (i := 898) (by decide +kernel)⟩
theorem lw_p23 : lw_okq (⟨"ClockTeethModel", "next1", "()V"⟩, 27) := ⟨⟨by decide +kernel, by decide +kernel⟩, List.mem_of_getElem? (i := 886) (by decide +kernel), List.mem_of_getElem? (i := 999) (by decide +kernel), List.mem_of_getElem? (i := 1000) (by decide +kernel)⟩
theorem lw_p24 : lw_okq (⟨"ClockTeethModel", "look", "(I)I"⟩, 27) := ⟨⟨by decide +kernel, by decide +kernel⟩, List.mem_of_getElem? (i := 886) (by decide +kernel), List.mem_of_getElem? (i := 1003) (by decide +kernel), List.mem_of_getElem? (i := 1004) (by decide +kernel)⟩
theorem lw_p25 : lw_okq (⟨"ClockTeethModel", "needs", "(ZI)V"⟩, 27) := ⟨⟨by decide +kernel, by decide +kernel⟩, List.mem_of_getElem? (i := 886) (by decide +kernel), List.mem_of_getElem? (i := 1011) (by decide +kernel), List.mem_of_getElem? (i := 1012) (by decide +kernel)⟩
theorem lw_p26 : lw_okq (⟨"ClockTeethModel", "readLine", "()V"⟩, 27) := ⟨⟨by decide +kernel, by decide +kernel⟩, List.mem_of_getElem? (i := 886) (by decide +kernel), List.mem_of_getElem? (i := 1015) (by decide +kernel), List.mem_of_getElem? (i := 1016) (by decide +kernel)⟩
theorem lw_p27 : lw_okq (⟨"ClockTeethModel", "lineNow", "()I"⟩, 27) := ⟨⟨by decide +kernel, by decide +kernel⟩, List.mem_of_getElem? (i := 886) (by decide +kernel), List.mem_of_getElem? (i := 1019) (by decide +kernel), List.mem_of_getElem? (i := 1020) (by decide +kernel)⟩
theorem lw_p28 : lw_okq (⟨"ClockTeethModel", "is", "(IIIII)Z"⟩, 27) := ⟨⟨by decide +kernel, by decide +kernel⟩, List.mem_of_getElem? (i := 886) (by decide +kernel), List.mem_of_getElem? (i := 1023) (by decide +kernel), List.mem_of_getElem? (i := 1024) (by decide +kernel)⟩
theorem lw_p29 : lw_okq (⟨"ClockTeethModel", "ends", "(III)Z"⟩, 27) := ⟨⟨by decide +kernel, by decide +kernel⟩, List.mem_of_getElem? (i := 886) (by decide +kernel), List.mem_of_getElem? (i := 1027) (by decide +kernel), List.mem_of_getElem? (i := 1028) (by decide +kernel)⟩
theorem lw_p30 : lw_okq (⟨"ClockTeethModel", "readFigure", "()V"⟩, 27) := ⟨⟨by decide +kernel, by decide +kernel⟩, List.mem_of_getElem? (i := 886) (by decide +kernel), List.mem_of_getElem? (i := 1031) (by decide +kernel), List.mem_of_getElem? (i := 1032) (by decide +kernel)⟩
theorem lw_p31 : lw_okq (⟨"ClockTeethModel", "kindNow", "()I"⟩, 27) := ⟨⟨by decide +kernel, by decide +kernel⟩, List.mem_of_getElem? (i := 886) (by decide +kernel), List.mem_of_getElem? (i := 1035) (by decide +kernel), List.mem_of_getElem? (i := 1036) (by decide +kernel)⟩
def lw_privs_2 : List (MethodName × Nat) := [(⟨"ClockTeeth", "isSome", "(I)Z"⟩, 13), (⟨"ClockTeeth$Clock", "startFirst", "(ILClockTeeth$Figure;I)Z"⟩, 10), (⟨"ClockTeeth", "addSight", "(IIZ)I"⟩, 13), (⟨"ClockTeeth", "countFrights", "(JI)V"⟩, 13), (⟨"ClockTeeth", "addSightOf", "(LClockTeeth$Sheet;I)Z"⟩, 13), (⟨"ClockTeethModel", "firstDraft", "()V"⟩, 27), (⟨"ClockTeethModel", "keepDraft", "()V"⟩, 27), (⟨"ClockTeethModel", "next1", "()V"⟩, 27), (⟨"ClockTeethModel", "look", "(I)I"⟩, 27), (⟨"ClockTeethModel", "needs", "(ZI)V"⟩, 27), (⟨"ClockTeethModel", "readLine", "()V"⟩, 27), (⟨"ClockTeethModel", "lineNow", "()I"⟩, 27), (⟨"ClockTeethModel", "is", "(IIIII)Z"⟩, 27), (⟨"ClockTeethModel", "ends", "(III)Z"⟩, 27), (⟨"ClockTeethModel", "readFigure", "()V"⟩, 27), (⟨"ClockTeethModel", "kindNow", "()I"⟩, 27)]
theorem lw_r2 : ∀ q ∈ lw_privs_2, lw_okq q := List.forall_mem_cons.mpr ⟨lw_p16, List.forall_mem_cons.mpr ⟨lw_p17, List.forall_mem_cons.mpr ⟨lw_p18, List.forall_mem_cons.mpr ⟨lw_p19, List.forall_mem_cons.mpr ⟨lw_p20, List.forall_mem_cons.mpr ⟨lw_p21, List.forall_mem_cons.mpr ⟨lw_p22, List.forall_mem_cons.mpr ⟨lw_p23, List.forall_mem_cons.mpr ⟨lw_p24, List.forall_mem_cons.mpr ⟨lw_p25, List.forall_mem_cons.mpr ⟨lw_p26, List.forall_mem_cons.mpr ⟨lw_p27, List.forall_mem_cons.mpr ⟨lw_p28, List.forall_mem_cons.mpr ⟨lw_p29, List.forall_mem_cons.mpr ⟨lw_p30, List.forall_mem_cons.mpr ⟨lw_p31, fun _ h => absurd h List.not_mem_nil⟩⟩⟩⟩⟩⟩⟩⟩⟩⟩⟩⟩⟩⟩⟩⟩
theorem lw_p32 : lw_okq (⟨"ClockTeethModel", "readNumber", "(II)I"⟩, 27) := ⟨⟨by decide +kernel, by decide +kernel⟩, List.mem_of_getElem? (i := 886) (by decide +kernel), List.mem_of_getElem? (i := 1039) (by decide +kernel), List.mem_of_getElem? (i := 1040) (by decide +kernel)⟩
theorem lw_p33 : lw_okq (⟨"ClockTeethModel", "looked", "(II)I"⟩, 27) := ⟨⟨by decide +kernel, by decide +kernel⟩, List.mem_of_getElem? (i := 886) (by decide +kernel), List.mem_of_getElem? (i := 1043) (by decide +kernel), List.mem_of_getElem? (i := 1044) (by decide +kernel)⟩
theorem lw_p34 : lw_okq (⟨"ClockTeethModel", "readVote", "()V"⟩, 27) := ⟨⟨by decide +kernel, by decide +kernel⟩, List.mem_of_getElem? (i := 886) (by decide +kernel), List.mem_of_getElem? (i := 1047) (by decide +kernel), List.mem_of_getElem? (i := 1048) (by decide +kernel)⟩
theorem lw_p35 : lw_okq (⟨"ClockTeethModel", "isFigure", "(I)Z"⟩, 27) := ⟨⟨by decide +kernel, by decide +kernel⟩, List.mem_of_getElem? (i := 886) (by decide +kernel), List.mem_of_getElem? (i := 1063) (by decide +kernel), List.mem_of_getElem? (i := 1064) (by decide +kernel)⟩
theorem lw_p36 : lw_okq (⟨"ClockTeethModel", "of", "(II)I"⟩, 27) := ⟨⟨by decide +kernel, by decide +kernel⟩, List.mem_of_getElem? (i := 886) (by decide +kernel), List.mem_of_getElem? (i := 1068) (by decide +kernel), List.mem_of_getElem? (i := 1069) (by decide +kernel)⟩
theorem lw_p37 : lw_okq (⟨"ClockTeethModel", "roundOf", "(I)I"⟩, 27) := ⟨⟨by decide +kernel, by decide +kernel⟩, List.mem_of_getElem? (i := 886) (by decide +kernel), List.mem_of_getElem? (i := 1072) (by decide +kernel), List.mem_of_getElem? (i := 1073) (by decide +kernel)⟩
theorem lw_p38 : lw_okq (⟨"ClockTeethModel", "isOut", "(IJ)Z"⟩, 27) := ⟨⟨by decide +kernel, by decide +kernel⟩, List.mem_of_getElem? (i := 886) (by decide +kernel), List.mem_of_getElem? (i := 1089) (by decide +kernel), List.mem_of_getElem? (i := 1090) (by decide +kernel)⟩
theorem lw_p39 : lw_okq (⟨"ClockTeethModel", "timesOf", "(I)I"⟩, 27) := ⟨⟨by decide +kernel, by decide +kernel⟩, List.mem_of_getElem? (i := 886) (by decide +kernel), List.mem_of_getElem? (i := 1093) (by decide +kernel), List.mem_of_getElem? (i := 1094) (by decide +kernel)⟩
theorem lw_p40 : lw_okq (⟨"ClockTeethModel", "restOf", "(II)I"⟩, 27) := ⟨⟨by decide +kernel, by decide +kernel⟩, List.mem_of_getElem? (i := 886) (by decide +kernel), List.mem_of_getElem? (i := 1097) (by decide +kernel), List.mem_of_getElem? (i := 1098) (by decide +kernel)⟩
theorem lw_p41 : lw_okq (⟨"ClockTeethModel", "nextOf", "(IJ)J"⟩, 27) := ⟨⟨by decide +kernel, by decide +kernel⟩, List.mem_of_getElem? (i := 886) (by decide +kernel), List.mem_of_getElem? (i := 1108) (by decide +kernel), List.mem_of_getElem? (i := 1109) (by decide +kernel)⟩
theorem lw_p42 : lw_okq (⟨"ClockTeethModel", "areTwo", "(II)Z"⟩, 27) := ⟨⟨by decide +kernel, by decide +kernel⟩, List.mem_of_getElem? (i := 886) (by decide +kernel), List.mem_of_getElem? (i := 1141) (by decide +kernel), List.mem_of_getElem? (i := 1142) (by decide +kernel)⟩
theorem lw_p43 : lw_okq (⟨"ClockTeethModel", "togetherOf", "(IIJ)J"⟩, 27) := ⟨⟨by decide +kernel, by decide +kernel⟩, List.mem_of_getElem? (i := 886) (by decide +kernel), List.mem_of_getElem? (i := 1145) (by decide +kernel), List.mem_of_getElem? (i := 1146) (by decide +kernel)⟩
theorem lw_p44 : lw_okq (⟨"ClockTeethModel", "findRests", "(I)V"⟩, 27) := ⟨⟨by decide +kernel, by decide +kernel⟩, List.mem_of_getElem? (i := 886) (by decide +kernel), List.mem_of_getElem? (i := 1149) (by decide +kernel), List.mem_of_getElem? (i := 1150) (by decide +kernel)⟩
theorem lw_p45 : lw_okq (⟨"ClockTeethModel", "startsRests", "()V"⟩, 27) := ⟨⟨by decide +kernel, by decide +kernel⟩, List.mem_of_getElem? (i := 886) (by decide +kernel), List.mem_of_getElem? (i := 1153) (by decide +kernel), List.mem_of_getElem? (i := 1154) (by decide +kernel)⟩
theorem lw_p46 : lw_okq (⟨"ClockTeethModel", "joinsRests", "(I)V"⟩, 27) := ⟨⟨by decide +kernel, by decide +kernel⟩, List.mem_of_getElem? (i := 886) (by decide +kernel), List.mem_of_getElem? (i := 1157) (by decide +kernel), List.mem_of_getElem? (i := 1158) (by decide +kernel)⟩
theorem lw_p47 : lw_okq (⟨"ClockTeethModel", "firstOfRests", "(J)J"⟩, 27) := ⟨⟨by decide +kernel, by decide +kernel⟩, List.mem_of_getElem? (i := 886) (by decide +kernel), List.mem_of_getElem? (i := 1167) (by decide +kernel), List.mem_of_getElem? (i := 1168) (by decide +kernel)⟩
def lw_privs_3 : List (MethodName × Nat) := [(⟨"ClockTeethModel", "readNumber", "(II)I"⟩, 27), (⟨"ClockTeethModel", "looked", "(II)I"⟩, 27), (⟨"ClockTeethModel", "readVote", "()V"⟩, 27), (⟨"ClockTeethModel", "isFigure", "(I)Z"⟩, 27), (⟨"ClockTeethModel", "of", "(II)I"⟩, 27), (⟨"ClockTeethModel", "roundOf", "(I)I"⟩, 27), (⟨"ClockTeethModel", "isOut", "(IJ)Z"⟩, 27), (⟨"ClockTeethModel", "timesOf", "(I)I"⟩, 27), (⟨"ClockTeethModel", "restOf", "(II)I"⟩, 27), (⟨"ClockTeethModel", "nextOf", "(IJ)J"⟩, 27), (⟨"ClockTeethModel", "areTwo", "(II)Z"⟩, 27), (⟨"ClockTeethModel", "togetherOf", "(IIJ)J"⟩, 27), (⟨"ClockTeethModel", "findRests", "(I)V"⟩, 27), (⟨"ClockTeethModel", "startsRests", "()V"⟩, 27), (⟨"ClockTeethModel", "joinsRests", "(I)V"⟩, 27), (⟨"ClockTeethModel", "firstOfRests", "(J)J"⟩, 27)]
theorem lw_r3 : ∀ q ∈ lw_privs_3, lw_okq q := List.forall_mem_cons.mpr ⟨lw_p32, List.forall_mem_cons.mpr ⟨lw_p33, List.forall_mem_cons.mpr ⟨lw_p34, List.forall_mem_cons.mpr ⟨lw_p35, List.forall_mem_cons.mpr ⟨lw_p36, List.forall_mem_cons.mpr ⟨lw_p37, List.forall_mem_cons.mpr ⟨lw_p38, List.forall_mem_cons.mpr ⟨lw_p39, List.forall_mem_cons.mpr ⟨lw_p40, List.forall_mem_cons.mpr ⟨lw_p41, List.forall_mem_cons.mpr ⟨lw_p42, List.forall_mem_cons.mpr ⟨lw_p43, List.forall_mem_cons.mpr ⟨lw_p44, List.forall_mem_cons.mpr ⟨lw_p45, List.forall_mem_cons.mpr ⟨lw_p46, List.forall_mem_cons.mpr ⟨lw_p47, fun _ h => absurd h List.not_mem_nil⟩⟩⟩⟩⟩⟩⟩⟩⟩⟩⟩⟩⟩⟩⟩⟩
theorem lw_p48 : lw_okq (⟨"ClockTeethModel", "areSome", "(I)Z"⟩, 27) := ⟨⟨by decide +kernel, by decide +kernel⟩, List.mem_of_getElem? (i := 886) (by decide +kernel), List.mem_of_getElem? (i := 1179) (by decide +kernel), List.mem_of_getElem? (i := 1180) (by decide +kernel)⟩
theorem lw_p49 : lw_okq (⟨"ClockTeethModel", "crashOf", "(I)I"⟩, 27) := ⟨⟨by decide +kernel, by decide +kernel⟩, List.mem_of_getElem? (i := 886) (by decide +kernel), List.mem_of_getElem? (i := 1191) (by decide +kernel), List.mem_of_getElem? (i := 1192) (by decide +kernel)⟩
theorem lw_p50 : lw_okq (⟨"ClockTeethModel", "doCrash", "(II)Z"⟩, 27) := ⟨⟨by decide +kernel, by decide +kernel⟩, List.mem_of_getElem? (i := 886) (by decide +kernel), List.mem_of_getElem? (i := 1195) (by decide +kernel), List.mem_of_getElem? (i := 1196) (by decide +kernel)⟩
theorem lw_p51 : lw_okq (⟨"ClockTeethModel", "doorOn", "(IJ)I"⟩, 27) := ⟨⟨by decide +kernel, by decide +kernel⟩, List.mem_of_getElem? (i := 886) (by decide +kernel), List.mem_of_getElem? (i := 1225) (by decide +kernel), List.mem_of_getElem? (i := 1226) (by decide +kernel)⟩
theorem lw_p52 : lw_okq (⟨"ClockTeethModel", "isClash", "(J)Z"⟩, 27) := ⟨⟨by decide +kernel, by decide +kernel⟩, List.mem_of_getElem? (i := 886) (by decide +kernel), List.mem_of_getElem? (i := 1237) (by decide +kernel), List.mem_of_getElem? (i := 1238) (by decide +kernel)⟩
theorem lw_p53 : lw_okq (⟨"ClockTeethModel", "findCut", "(I)Z"⟩, 27) := ⟨⟨by decide +kernel, by decide +kernel⟩, List.mem_of_getElem? (i := 886) (by decide +kernel), List.mem_of_getElem? (i := 1250) (by decide +kernel), List.mem_of_getElem? (i := 1251) (by decide +kernel)⟩
theorem lw_p54 : lw_okq (⟨"ClockTeethModel", "mayHave", "(II)Z"⟩, 27) := ⟨⟨by decide +kernel, by decide +kernel⟩, List.mem_of_getElem? (i := 886) (by decide +kernel), List.mem_of_getElem? (i := 1254) (by decide +kernel), List.mem_of_getElem? (i := 1255) (by decide +kernel)⟩
theorem lw_p55 : lw_okq (⟨"ClockTeethModel", "quietFirst", "(II)I"⟩, 27) := ⟨⟨by decide +kernel, by decide +kernel⟩, List.mem_of_getElem? (i := 886) (by decide +kernel), List.mem_of_getElem? (i := 1260) (by decide +kernel), List.mem_of_getElem? (i := 1261) (by decide +kernel)⟩
theorem lw_p56 : lw_okq (⟨"ClockTeethModel", "allCrash", "()I"⟩, 27) := ⟨⟨by decide +kernel, by decide +kernel⟩, List.mem_of_getElem? (i := 886) (by decide +kernel), List.mem_of_getElem? (i := 1276) (by decide +kernel), List.mem_of_getElem? (i := 1277) (by decide +kernel)⟩
theorem lw_p57 : lw_okq (⟨"ClockTeethModel", "isFit", "(I)Z"⟩, 27) := ⟨⟨by decide +kernel, by decide +kernel⟩, List.mem_of_getElem? (i := 886) (by decide +kernel), List.mem_of_getElem? (i := 1305) (by decide +kernel), List.mem_of_getElem? (i := 1306) (by decide +kernel)⟩
theorem lw_p58 : lw_okq (⟨"ClockTeethModel", "isPlainFit", "(III)Z"⟩, 27) := ⟨⟨by decide +kernel, by decide +kernel⟩, List.mem_of_getElem? (i := 886) (by decide +kernel), List.mem_of_getElem? (i := 1313) (by decide +kernel), List.mem_of_getElem? (i := 1314) (by decide +kernel)⟩
theorem lw_p59 : lw_okq (⟨"ClockTeethModel", "frightOf", "(IJI)I"⟩, 27) := ⟨⟨by decide +kernel, by decide +kernel⟩, List.mem_of_getElem? (i := 886) (by decide +kernel), List.mem_of_getElem? (i := 1325) (by decide +kernel), List.mem_of_getElem? (i := 1326) (by decide +kernel)⟩
theorem lw_p60 : lw_okq (⟨"ClockTeethModel", "isFright", "(IJ)Z"⟩, 27) := ⟨⟨by decide +kernel, by decide +kernel⟩, List.mem_of_getElem? (i := 886) (by decide +kernel), List.mem_of_getElem? (i := 1329) (by decide +kernel), List.mem_of_getElem? (i := 1330) (by decide +kernel)⟩
theorem lw_p61 : lw_okq (⟨"ClockTeethModel", "copies", "(II)V"⟩, 27) := ⟨⟨by decide +kernel, by decide +kernel⟩, List.mem_of_getElem? (i := 886) (by decide +kernel), List.mem_of_getElem? (i := 1341) (by decide +kernel), List.mem_of_getElem? (i := 1342) (by decide +kernel)⟩
def lw_privs_4 : List (MethodName × Nat) := [(⟨"ClockTeethModel", "areSome", "(I)Z"⟩, 27), (⟨"ClockTeethModel", "crashOf", "(I)I"⟩, 27), (⟨"ClockTeethModel", "doCrash", "(II)Z"⟩, 27), (⟨"ClockTeethModel", "doorOn", "(IJ)I"⟩, 27), (⟨"ClockTeethModel", "isClash", "(J)Z"⟩, 27), (⟨"ClockTeethModel", "findCut", "(I)Z"⟩, 27), (⟨"ClockTeethModel", "mayHave", "(II)Z"⟩, 27), (⟨"ClockTeethModel", "quietFirst", "(II)I"⟩, 27), (⟨"ClockTeethModel", "allCrash", "()I"⟩, 27), (⟨"ClockTeethModel", "isFit", "(I)Z"⟩, 27), (⟨"ClockTeethModel", "isPlainFit", "(III)Z"⟩, 27), (⟨"ClockTeethModel", "frightOf", "(IJI)I"⟩, 27), (⟨"ClockTeethModel", "isFright", "(IJ)Z"⟩, 27), (⟨"ClockTeethModel", "copies", "(II)V"⟩, 27)]
theorem lw_r4 : ∀ q ∈ lw_privs_4, lw_okq q := List.forall_mem_cons.mpr ⟨lw_p48, List.forall_mem_cons.mpr ⟨lw_p49, List.forall_mem_cons.mpr ⟨lw_p50, List.forall_mem_cons.mpr ⟨lw_p51, List.forall_mem_cons.mpr ⟨lw_p52, List.forall_mem_cons.mpr ⟨lw_p53, List.forall_mem_cons.mpr ⟨lw_p54, List.forall_mem_cons.mpr ⟨lw_p55, List.forall_mem_cons.mpr ⟨lw_p56, List.forall_mem_cons.mpr ⟨lw_p57, List.forall_mem_cons.mpr ⟨lw_p58, List.forall_mem_cons.mpr ⟨lw_p59, List.forall_mem_cons.mpr ⟨lw_p60, List.forall_mem_cons.mpr ⟨lw_p61, fun _ h => absurd h List.not_mem_nil⟩⟩⟩⟩⟩⟩⟩⟩⟩⟩⟩⟩⟩⟩
def lw_privs : List (MethodName × Nat) := lw_privs_1 ++ (lw_privs_2 ++ (lw_privs_3 ++ (lw_privs_4)))
def lw_tbl : List Cond := k2_sels lw_privs ++ tables_1
theorem lw_privs_ok : ∀ q ∈ lw_privs, lw_okq q := by
  show ∀ q ∈ lw_privs_1 ++ (lw_privs_2 ++ (lw_privs_3 ++ (lw_privs_4))), lw_okq q
  exact List.forall_mem_append.mpr ⟨lw_r1, List.forall_mem_append.mpr ⟨lw_r2, List.forall_mem_append.mpr ⟨lw_r3, lw_r4⟩⟩⟩
-- ===== end of PART A; then your names; then what follows =====
end
section
/-! ===== BEGIN words of one list among another's, by their places ===== -/
theorem goodIn_r {big : List Cond} (ws : List Cond) (ps : List Nat) (hp : ws = ps.filterMap (fun i => big[i]?)) (h : ws.all goodWord = true) : GoodIn big ws := by
  intro w hw
  have h1 := List.all_eq_true.mp h w hw
  rw [hp] at hw
  obtain ⟨i, -, hi⟩ := List.mem_filterMap.mp hw
  have hm : w ∈ big := by first | exact List.mem_of_getElem? hi | exact List.getElem?_mem hi
  exact ⟨hm, good_of_word h1⟩
theorem goodIn_app {big a b : List Cond} (ha : GoodIn big a) (hb : GoodIn big b) : GoodIn big (a ++ b) := fun w h => (List.mem_append.mp h).elim (ha w) (hb w)
theorem goodIn_ca {big a b : List Cond} {c : Cond} (ha : GoodIn big (c :: a)) (hb : GoodIn big b) : GoodIn big (c :: (a ++ b)) := fun w h => (List.mem_cons.mp h).elim (fun e => ha w (List.mem_cons.mpr (Or.inl e))) (fun h => (List.mem_append.mp h).elim (fun h => ha w (List.mem_cons.mpr (Or.inr h))) (hb w))
theorem goodIn_sub {big ws : List Cond} (hm : ∀ w ∈ ws, w ∈ big) (h : ws.all goodWord = true) : GoodIn big ws := fun w hw => ⟨hm w hw, good_of_word (List.all_eq_true.mp h w hw)⟩
/-! ===== END ===== -/

/-! ===== BEGIN printed: names, fields, word lists, decode rows ===== -/
def RX0 : String := "ClockTeeth$Clock"
def TX0 : u_T := fun k => match k with
  | 0 => ("ClockTeeth$Clock", "figures", "[LClockTeeth$Figure;", true)
  | 1 => ("ClockTeeth$Clock", "votes", "[LClockTeeth$Vote;", true)
  | 2 => ("ClockTeeth$Clock", "sights", "[LClockTeeth$Sight;", true)
  | 3 => ("ClockTeeth$Clock", "figureCount", "I", false)
  | 4 => ("ClockTeeth$Clock", "voteCount", "I", false)
  | 5 => ("ClockTeeth$Clock", "sightCount", "I", false)
  | 6 => ("ClockTeeth$Clock", "stickDoor", "I", false)
  | 7 => ("ClockTeeth$Clock", "stickFrom", "I", false)
  | 8 => ("ClockTeeth$Clock", "stickTo", "I", false)
  | _ => ("ClockTeeth$Clock", "reach", "I", false)
def tyX0 : Nat → FieldType := fun k => match k with
  | 0 => .array (.object "ClockTeeth$Figure")
  | 1 => .array (.object "ClockTeeth$Vote")
  | 2 => .array (.object "ClockTeeth$Sight")
  | 3 => .int
  | 4 => .int
  | 5 => .int
  | 6 => .int
  | 7 => .int
  | 8 => .int
  | _ => .int
abbrev wsX00 : List Cond := u_ws RX0 TX0 10
theorem nmX0 : ∀ a, a < 10 → ∀ b, b < 10 → a ≠ b → (TX0 a).2.1 ≠ (TX0 b).2.1 := by decide +kernel
theorem tyX0_ok : ∀ k, k < 10 → parseFieldDescriptor (TX0 k).2.2.1 = some (tyX0 k) := by decide +kernel
abbrev cX0_init : ByteArray := prog_2_method_1_code
def yX0_init : MethodName := ⟨RX0, "<init>", "()V"⟩
abbrev cX0_empty : ByteArray := prog_2_method_2_code
def yX0_empty : MethodName := ⟨RX0, "empty", "()V"⟩
abbrev cX0_free : ByteArray := prog_2_method_3_code
def yX0_free : MethodName := ⟨RX0, "free", "()V"⟩
abbrev cX0_jam : ByteArray := prog_2_method_4_code
def yX0_jam : MethodName := ⟨RX0, "jam", "(III)V"⟩
abbrev cX0_become : ByteArray := prog_2_method_5_code
def yX0_become : MethodName := ⟨RX0, "become", "(LClockTeeth$Clock;)V"⟩
abbrev cX0_leastVoteYear : ByteArray := prog_2_method_6_code
def yX0_leastVoteYear : MethodName := ⟨RX0, "leastVoteYear", "()I"⟩
abbrev cX0_addVote : ByteArray := prog_2_method_7_code
def yX0_addVote : MethodName := ⟨RX0, "addVote", "(IIIII)V"⟩
abbrev cX0_holdVotes : ByteArray := prog_2_method_8_code
def yX0_holdVotes : MethodName := ⟨RX0, "holdVotes", "(I)V"⟩
abbrev cX0_doorOf : ByteArray := prog_2_method_9_code
def yX0_doorOf : MethodName := ⟨RX0, "doorOf", "(LClockTeeth$Figure;I)I"⟩
abbrev cX0_doorsOn : ByteArray := prog_2_method_10_code
def yX0_doorsOn : MethodName := ⟨RX0, "doorsOn", "(J)I"⟩
abbrev cX0_crashesOf : ByteArray := prog_2_method_11_code
def yX0_crashesOf : MethodName := ⟨RX0, "crashesOf", "(I)I"⟩
abbrev cX0_howManyCrash : ByteArray := prog_2_method_12_code
def yX0_howManyCrash : MethodName := ⟨RX0, "howManyCrash", "()I"⟩
abbrev cX0_cutInto : ByteArray := prog_2_method_13_code
def yX0_cutInto : MethodName := ⟨RX0, "cutInto", "(ILClockTeeth$Figure;)Z"⟩
abbrev cX0_startFirst : ByteArray := prog_2_method_14_code
def yX0_startFirst : MethodName := ⟨RX0, "startFirst", "(ILClockTeeth$Figure;I)Z"⟩
abbrev cX0_freeStarts : ByteArray := prog_2_method_15_code
def yX0_freeStarts : MethodName := ⟨RX0, "freeStarts", "(ILClockTeeth$Figure;)J"⟩
abbrev cX0_freeOf : ByteArray := prog_2_method_16_code
def yX0_freeOf : MethodName := ⟨RX0, "freeOf", "(LClockTeeth$Figure;LClockTeeth$Figure;J)J"⟩
abbrev cX0_fits : ByteArray := prog_2_method_17_code
def yX0_fits : MethodName := ⟨RX0, "fits", "(ILClockTeeth$Figure;)Z"⟩
abbrev cX0_fittingStarts : ByteArray := prog_2_method_18_code
def yX0_fittingStarts : MethodName := ⟨RX0, "fittingStarts", "(II)J"⟩
def RX1 : String := "ClockTeeth$Figure"
def TX1 : u_T := fun k => match k with
  | 0 => ("ClockTeeth$Figure", "teeth", "I", false)
  | 1 => ("ClockTeeth$Figure", "start", "I", false)
  | 2 => ("ClockTeeth$Figure", "door", "I", false)
  | 3 => ("ClockTeeth$Figure", "late", "I", false)
  | _ => ("ClockTeeth$Figure", "gap", "I", false)
def tyX1 : Nat → FieldType := fun k => match k with
  | 0 => .int
  | 1 => .int
  | 2 => .int
  | 3 => .int
  | _ => .int
abbrev wsX10 : List Cond := u_ws RX1 TX1 5
theorem nmX1 : ∀ a, a < 5 → ∀ b, b < 5 → a ≠ b → (TX1 a).2.1 ≠ (TX1 b).2.1 := by decide +kernel
theorem tyX1_ok : ∀ k, k < 5 → parseFieldDescriptor (TX1 k).2.2.1 = some (tyX1 k) := by decide +kernel
abbrev cX1_init : ByteArray := prog_3_method_1_code
def yX1_init : MethodName := ⟨RX1, "<init>", "()V"⟩
abbrev cX1_become : ByteArray := prog_3_method_2_code
def yX1_become : MethodName := ⟨RX1, "become", "(LClockTeeth$Figure;)V"⟩
abbrev cX1_kind : ByteArray := prog_3_method_3_code
def yX1_kind : MethodName := ⟨RX1, "kind", "()I"⟩
abbrev cX1_round : ByteArray := prog_3_method_4_code
def yX1_round : MethodName := ⟨RX1, "round", "()I"⟩
abbrev cX1_times : ByteArray := prog_3_method_5_code
def yX1_times : MethodName := ⟨RX1, "times", "()I"⟩
abbrev cX1_offset : ByteArray := prog_3_method_6_code
def yX1_offset : MethodName := ⟨RX1, "offset", "(I)I"⟩
abbrev cX1_timeOf : ByteArray := prog_3_method_7_code
def yX1_timeOf : MethodName := ⟨RX1, "timeOf", "(I)I"⟩
abbrev cX1_comesOut : ByteArray := prog_3_method_8_code
def yX1_comesOut : MethodName := ⟨RX1, "comesOut", "(J)Z"⟩
abbrev cX1_meets : ByteArray := prog_3_method_9_code
def yX1_meets : MethodName := ⟨RX1, "meets", "(LClockTeeth$Figure;)Z"⟩
def RX2 : String := "ClockTeeth$Finder"
def TX2 : u_T := fun k => match k with
  | 0 => ("ClockTeeth$Finder", "chosen", "[LClockTeeth$Figure;", true)
  | 1 => ("ClockTeeth$Finder", "step", "[J", true)
  | 2 => ("ClockTeeth$Finder", "common", "[J", true)
  | 3 => ("ClockTeeth$Finder", "inverse", "[J", true)
  | 4 => ("ClockTeeth$Finder", "levels", "I", false)
  | 5 => ("ClockTeeth$Finder", "from", "J", false)
  | _ => ("ClockTeeth$Finder", "best", "J", false)
def tyX2 : Nat → FieldType := fun k => match k with
  | 0 => .array (.object "ClockTeeth$Figure")
  | 1 => .array .long
  | 2 => .array .long
  | 3 => .array .long
  | 4 => .int
  | 5 => .long
  | _ => .long
abbrev wsX20 : List Cond := u_ws RX2 TX2 7
theorem nmX2 : ∀ a, a < 7 → ∀ b, b < 7 → a ≠ b → (TX2 a).2.1 ≠ (TX2 b).2.1 := by decide +kernel
theorem tyX2_ok : ∀ k, k < 7 → parseFieldDescriptor (TX2 k).2.2.1 = some (tyX2 k) := by decide +kernel
abbrev cX2_init : ByteArray := prog_4_method_1_code
def yX2_init : MethodName := ⟨RX2, "<init>", "()V"⟩
abbrev cX2_commonRound : ByteArray := prog_4_method_2_code
def yX2_commonRound : MethodName := ⟨RX2, "commonRound", "([LClockTeeth$Figure;I)J"⟩
abbrev cX2_earliest : ByteArray := prog_4_method_3_code
def yX2_earliest : MethodName := ⟨RX2, "earliest", "([LClockTeeth$Figure;IJ)J"⟩
abbrev cX2_howOften : ByteArray := prog_4_method_4_code
def yX2_howOften : MethodName := ⟨RX2, "howOften", "([LClockTeeth$Figure;IJJ)J"⟩
abbrev cX2_choose : ByteArray := prog_4_method_5_code
def yX2_choose : MethodName := ⟨RX2, "choose", "([LClockTeeth$Figure;I)V"⟩
abbrev cX2_addLevel : ByteArray := prog_4_method_6_code
def yX2_addLevel : MethodName := ⟨RX2, "addLevel", "(LClockTeeth$Figure;)V"⟩
abbrev cX2_inverseOf : ByteArray := prog_4_method_7_code
def yX2_inverseOf : MethodName := ⟨RX2, "inverseOf", "(JJ)J"⟩
abbrev cX2_meet : ByteArray := prog_4_method_8_code
def yX2_meet : MethodName := ⟨RX2, "meet", "(IJI)J"⟩
abbrev cX2_search : ByteArray := prog_4_method_9_code
def yX2_search : MethodName := ⟨RX2, "search", "(LClockTeeth$Finder;IJ)V"⟩
abbrev cX2_countOf : ByteArray := prog_4_method_10_code
def yX2_countOf : MethodName := ⟨RX2, "countOf", "(LClockTeeth$Finder;IJJ)J"⟩
def RX3 : String := "ClockTeeth$Reader"
def TX3 : u_T := fun k => match k with
  | 0 => ("ClockTeeth$Reader", "tape", "LClockTeeth$Tape;", true)
  | 1 => ("ClockTeeth$Reader", "told", "LClockTeeth$Clock;", true)
  | 2 => ("ClockTeeth$Reader", "token", "I", false)
  | 3 => ("ClockTeeth$Reader", "tokenAt", "I", false)
  | 4 => ("ClockTeeth$Reader", "tokenEnd", "I", false)
  | 5 => ("ClockTeeth$Reader", "stickTold", "Z", false)
  | 6 => ("ClockTeeth$Reader", "reachTold", "Z", false)
  | 7 => ("ClockTeeth$Reader", "found", "I", false)
  | _ => ("ClockTeeth$Reader", "foundAt", "I", false)
def tyX3 : Nat → FieldType := fun k => match k with
  | 0 => .object "ClockTeeth$Tape"
  | 1 => .object "ClockTeeth$Clock"
  | 2 => .int
  | 3 => .int
  | 4 => .int
  | 5 => .boolean
  | 6 => .boolean
  | 7 => .int
  | _ => .int
abbrev wsX30 : List Cond := u_ws RX3 TX3 9
theorem nmX3 : ∀ a, a < 9 → ∀ b, b < 9 → a ≠ b → (TX3 a).2.1 ≠ (TX3 b).2.1 := by decide +kernel
theorem tyX3_ok : ∀ k, k < 9 → parseFieldDescriptor (TX3 k).2.2.1 = some (tyX3 k) := by decide +kernel
abbrev cX3_init : ByteArray := prog_5_method_1_code
def yX3_init : MethodName := ⟨RX3, "<init>", "(LClockTeeth$Tape;LClockTeeth$Clock;)V"⟩
abbrev cX3_readLines : ByteArray := prog_5_method_2_code
def yX3_readLines : MethodName := ⟨RX3, "readLines", "()I"⟩
abbrev cX3_readLine : ByteArray := prog_5_method_3_code
def yX3_readLine : MethodName := ⟨RX3, "readLine", "()V"⟩
abbrev cX3_readFigure : ByteArray := prog_5_method_4_code
def yX3_readFigure : MethodName := ⟨RX3, "readFigure", "()V"⟩
abbrev cX3_readStick : ByteArray := prog_5_method_5_code
def yX3_readStick : MethodName := ⟨RX3, "readStick", "()V"⟩
abbrev cX3_readReach : ByteArray := prog_5_method_6_code
def yX3_readReach : MethodName := ⟨RX3, "readReach", "()V"⟩
abbrev cX3_readVote : ByteArray := prog_5_method_7_code
def yX3_readVote : MethodName := ⟨RX3, "readVote", "()V"⟩
abbrev cX3_endLine : ByteArray := prog_5_method_8_code
def yX3_endLine : MethodName := ⟨RX3, "endLine", "()V"⟩
abbrev cX3_number : ByteArray := prog_5_method_9_code
def yX3_number : MethodName := ⟨RX3, "number", "(II)I"⟩
abbrev cX3_isName : ByteArray := prog_5_method_10_code
def yX3_isName : MethodName := ⟨RX3, "isName", "(Ljava/lang/String;)Z"⟩
abbrev cX3_demand : ByteArray := prog_5_method_11_code
def yX3_demand : MethodName := ⟨RX3, "demand", "(ZI)V"⟩
abbrev cX3_refuse : ByteArray := prog_5_method_12_code
def yX3_refuse : MethodName := ⟨RX3, "refuse", "(II)V"⟩
abbrev cX3_advance : ByteArray := prog_5_method_13_code
def yX3_advance : MethodName := ⟨RX3, "advance", "()V"⟩
def RX4 : String := "ClockTeeth$Sheet"
def TX4 : u_T := fun k => match k with
  | 0 => ("ClockTeeth$Sheet", "row", "[I", true)
  | 1 => ("ClockTeeth$Sheet", "lane", "I", false)
  | _ => ("ClockTeeth$Sheet", "cells", "I", false)
def tyX4 : Nat → FieldType := fun k => match k with
  | 0 => .array .int
  | 1 => .int
  | _ => .int
abbrev wsX40 : List Cond := u_ws RX4 TX4 3
theorem nmX4 : ∀ a, a < 3 → ∀ b, b < 3 → a ≠ b → (TX4 a).2.1 ≠ (TX4 b).2.1 := by decide +kernel
theorem tyX4_ok : ∀ k, k < 3 → parseFieldDescriptor (TX4 k).2.2.1 = some (tyX4 k) := by decide +kernel
abbrev cX4_init : ByteArray := prog_6_method_1_code
def yX4_init : MethodName := ⟨RX4, "<init>", "()V"⟩
abbrev cX4_renew : ByteArray := prog_6_method_2_code
def yX4_renew : MethodName := ⟨RX4, "renew", "(II)V"⟩
abbrev cX4_faultOf : ByteArray := prog_6_method_3_code
def yX4_faultOf : MethodName := ⟨RX4, "faultOf", "(IJI)I"⟩
abbrev cX4_put : ByteArray := prog_6_method_4_code
def yX4_put : MethodName := ⟨RX4, "put", "(II)V"⟩
def RX5 : String := "ClockTeeth$Sight"
def TX5 : u_T := fun k => match k with
  | 0 => ("ClockTeeth$Sight", "who", "I", false)
  | 1 => ("ClockTeeth$Sight", "when", "I", false)
  | _ => ("ClockTeeth$Sight", "was", "Z", false)
def tyX5 : Nat → FieldType := fun k => match k with
  | 0 => .int
  | 1 => .int
  | _ => .boolean
abbrev wsX50 : List Cond := u_ws RX5 TX5 3
theorem nmX5 : ∀ a, a < 3 → ∀ b, b < 3 → a ≠ b → (TX5 a).2.1 ≠ (TX5 b).2.1 := by decide +kernel
theorem tyX5_ok : ∀ k, k < 3 → parseFieldDescriptor (TX5 k).2.2.1 = some (tyX5 k) := by decide +kernel
abbrev cX5_init : ByteArray := prog_7_method_1_code
def yX5_init : MethodName := ⟨RX5, "<init>", "()V"⟩
abbrev cX5_tell : ByteArray := prog_7_method_2_code
def yX5_tell : MethodName := ⟨RX5, "tell", "(IIZ)V"⟩
def RX6 : String := "ClockTeeth$Tape"
def TX6 : u_T := fun k => match k with
  | 0 => ("ClockTeeth$Tape", "bytes", "[I", true)
  | _ => ("ClockTeeth$Tape", "length", "I", false)
def tyX6 : Nat → FieldType := fun k => match k with
  | 0 => .array .int
  | _ => .int
abbrev wsX60 : List Cond := u_ws RX6 TX6 2
theorem nmX6 : ∀ a, a < 2 → ∀ b, b < 2 → a ≠ b → (TX6 a).2.1 ≠ (TX6 b).2.1 := by decide +kernel
theorem tyX6_ok : ∀ k, k < 2 → parseFieldDescriptor (TX6 k).2.2.1 = some (tyX6 k) := by decide +kernel
abbrev cX6_init : ByteArray := prog_8_method_1_code
def yX6_init : MethodName := ⟨RX6, "<init>", "()V"⟩
abbrev cX6_take : ByteArray := prog_8_method_2_code
def yX6_take : MethodName := ⟨RX6, "take", "(J)Z"⟩
abbrev cX6_isLetter : ByteArray := prog_8_method_3_code
def yX6_isLetter : MethodName := ⟨RX6, "isLetter", "(I)Z"⟩
abbrev cX6_isDigit : ByteArray := prog_8_method_4_code
def yX6_isDigit : MethodName := ⟨RX6, "isDigit", "(I)Z"⟩
abbrev cX6_isSign : ByteArray := prog_8_method_5_code
def yX6_isSign : MethodName := ⟨RX6, "isSign", "(IC)Z"⟩
def RX7 : String := "ClockTeeth$Vote"
def TX7 : u_T := fun k => match k with
  | 0 => ("ClockTeeth$Vote", "year", "I", false)
  | 1 => ("ClockTeeth$Vote", "goes", "I", false)
  | 2 => ("ClockTeeth$Vote", "teeth", "I", false)
  | 3 => ("ClockTeeth$Vote", "start", "I", false)
  | _ => ("ClockTeeth$Vote", "door", "I", false)
def tyX7 : Nat → FieldType := fun k => match k with
  | 0 => .int
  | 1 => .int
  | 2 => .int
  | 3 => .int
  | _ => .int
abbrev wsX70 : List Cond := u_ws RX7 TX7 5
theorem nmX7 : ∀ a, a < 5 → ∀ b, b < 5 → a ≠ b → (TX7 a).2.1 ≠ (TX7 b).2.1 := by decide +kernel
theorem tyX7_ok : ∀ k, k < 5 → parseFieldDescriptor (TX7 k).2.2.1 = some (tyX7 k) := by decide +kernel
abbrev cX7_init : ByteArray := prog_9_method_1_code
def yX7_init : MethodName := ⟨RX7, "<init>", "()V"⟩
abbrev cX7_become : ByteArray := prog_9_method_2_code
def yX7_become : MethodName := ⟨RX7, "become", "(LClockTeeth$Vote;)V"⟩
def RX8 : String := "ClockTeeth"
def TX8 : u_T := fun k => match k with
  | 0 => ("ClockTeeth", "tape", "LClockTeeth$Tape;", true)
  | 1 => ("ClockTeeth", "clock", "LClockTeeth$Clock;", true)
  | 2 => ("ClockTeeth", "draft", "LClockTeeth$Clock;", true)
  | 3 => ("ClockTeeth", "images", "[LClockTeeth$Clock;", true)
  | 4 => ("ClockTeeth", "kept", "[Z", true)
  | 5 => ("ClockTeeth", "sheets", "[LClockTeeth$Sheet;", true)
  | 6 => ("ClockTeeth", "finder", "LClockTeeth$Finder;", true)
  | 7 => ("ClockTeeth", "trial", "LClockTeeth$Figure;", true)
  | 8 => ("ClockTeeth", "teethBefore", "[I", true)
  | 9 => ("ClockTeeth", "startBefore", "[I", true)
  | 10 => ("ClockTeeth", "frights", "[I", true)
  | 11 => ("ClockTeeth", "textFault", "I", false)
  | _ => ("ClockTeeth", "readFault", "I", false)
def tyX8 : Nat → FieldType := fun k => match k with
  | 0 => .object "ClockTeeth$Tape"
  | 1 => .object "ClockTeeth$Clock"
  | 2 => .object "ClockTeeth$Clock"
  | 3 => .array (.object "ClockTeeth$Clock")
  | 4 => .array .boolean
  | 5 => .array (.object "ClockTeeth$Sheet")
  | 6 => .object "ClockTeeth$Finder"
  | 7 => .object "ClockTeeth$Figure"
  | 8 => .array .int
  | 9 => .array .int
  | 10 => .array .int
  | 11 => .int
  | _ => .int
abbrev wsX80 : List Cond := u_ws RX8 TX8 13
theorem nmX8 : ∀ a, a < 13 → ∀ b, b < 13 → a ≠ b → (TX8 a).2.1 ≠ (TX8 b).2.1 := by decide +kernel
theorem tyX8_ok : ∀ k, k < 13 → parseFieldDescriptor (TX8 k).2.2.1 = some (tyX8 k) := by decide +kernel
abbrev cX8_init : ByteArray := prog_1_method_1_code
def yX8_init : MethodName := ⟨RX8, "<init>", "()V"⟩
abbrev cX8_feed : ByteArray := prog_1_method_2_code
def yX8_feed : MethodName := ⟨RX8, "feed", "(J)I"⟩
abbrev cX8_end : ByteArray := prog_1_method_3_code
def yX8_end : MethodName := ⟨RX8, "end", "(I)I"⟩
abbrev cX8_text : ByteArray := prog_1_method_4_code
def yX8_text : MethodName := ⟨RX8, "text", "()I"⟩
abbrev cX8_fault : ByteArray := prog_1_method_5_code
def yX8_fault : MethodName := ⟨RX8, "fault", "()I"⟩
abbrev cX8_rule : ByteArray := prog_1_method_6_code
def yX8_rule : MethodName := ⟨RX8, "rule", "(I)I"⟩
abbrev cX8_figure : ByteArray := prog_1_method_7_code
def yX8_figure : MethodName := ⟨RX8, "figure", "(II)I"⟩
abbrev cX8_vote : ByteArray := prog_1_method_8_code
def yX8_vote : MethodName := ⟨RX8, "vote", "(II)I"⟩
abbrev cX8_out : ByteArray := prog_1_method_9_code
def yX8_out : MethodName := ⟨RX8, "out", "(IJ)I"⟩
abbrev cX8_next : ByteArray := prog_1_method_10_code
def yX8_next : MethodName := ⟨RX8, "next", "(IJ)J"⟩
abbrev cX8_last : ByteArray := prog_1_method_11_code
def yX8_last : MethodName := ⟨RX8, "last", "(IJ)J"⟩
abbrev cX8_often : ByteArray := prog_1_method_12_code
def yX8_often : MethodName := ⟨RX8, "often", "(IJJ)J"⟩
abbrev cX8_together : ByteArray := prog_1_method_13_code
def yX8_together : MethodName := ⟨RX8, "together", "(IIJ)J"⟩
abbrev cX8_meetings : ByteArray := prog_1_method_14_code
def yX8_meetings : MethodName := ⟨RX8, "meetings", "(IIJJ)J"⟩
abbrev cX8_all : ByteArray := prog_1_method_15_code
def yX8_all : MethodName := ⟨RX8, "all", "(IJ)J"⟩
abbrev cX8_cycle : ByteArray := prog_1_method_16_code
def yX8_cycle : MethodName := ⟨RX8, "cycle", "(I)J"⟩
abbrev cX8_crash : ByteArray := prog_1_method_17_code
def yX8_crash : MethodName := ⟨RX8, "crash", "(I)I"⟩
abbrev cX8_first : ByteArray := prog_1_method_18_code
def yX8_first : MethodName := ⟨RX8, "first", "(JI)J"⟩
abbrev cX8_date : ByteArray := prog_1_method_19_code
def yX8_date : MethodName := ⟨RX8, "date", "(JI)J"⟩
abbrev cX8_day : ByteArray := prog_1_method_20_code
def yX8_day : MethodName := ⟨RX8, "day", "(II)J"⟩
abbrev cX8_by : ByteArray := prog_1_method_21_code
def yX8_by : MethodName := ⟨RX8, "by", "(IJ)I"⟩
abbrev cX8_clashes : ByteArray := prog_1_method_22_code
def yX8_clashes : MethodName := ⟨RX8, "clashes", "(JI)I"⟩
abbrev cX8_stick : ByteArray := prog_1_method_23_code
def yX8_stick : MethodName := ⟨RX8, "stick", "(III)I"⟩
abbrev cX8_cut : ByteArray := prog_1_method_24_code
def yX8_cut : MethodName := ⟨RX8, "cut", "(II)I"⟩
abbrev cX8_turn : ByteArray := prog_1_method_25_code
def yX8_turn : MethodName := ⟨RX8, "turn", "(I)I"⟩
abbrev cX8_recut : ByteArray := prog_1_method_26_code
def yX8_recut : MethodName := ⟨RX8, "recut", "(III)I"⟩
abbrev cX8_mend : ByteArray := prog_1_method_27_code
def yX8_mend : MethodName := ⟨RX8, "mend", "(I)I"⟩
abbrev cX8_hold : ByteArray := prog_1_method_28_code
def yX8_hold : MethodName := ⟨RX8, "hold", "(I)I"⟩
abbrev cX8_ask : ByteArray := prog_1_method_29_code
def yX8_ask : MethodName := ⟨RX8, "ask", "(IIIII)I"⟩
abbrev cX8_see : ByteArray := prog_1_method_30_code
def yX8_see : MethodName := ⟨RX8, "see", "(IIZ)I"⟩
abbrev cX8_forget : ByteArray := prog_1_method_31_code
def yX8_forget : MethodName := ⟨RX8, "forget", "(I)I"⟩
abbrev cX8_error : ByteArray := prog_1_method_32_code
def yX8_error : MethodName := ⟨RX8, "error", "(I)I"⟩
abbrev cX8_wheels : ByteArray := prog_1_method_33_code
def yX8_wheels : MethodName := ⟨RX8, "wheels", "(II)I"⟩
abbrev cX8_worn : ByteArray := prog_1_method_34_code
def yX8_worn : MethodName := ⟨RX8, "worn", "(I)I"⟩
abbrev cX8_fright : ByteArray := prog_1_method_35_code
def yX8_fright : MethodName := ⟨RX8, "fright", "(IJI)I"⟩
abbrev cX8_stand : ByteArray := prog_1_method_36_code
def yX8_stand : MethodName := ⟨RX8, "stand", "(JI)I"⟩
abbrev cX8_keep : ByteArray := prog_1_method_37_code
def yX8_keep : MethodName := ⟨RX8, "keep", "(I)I"⟩
abbrev cX8_back : ByteArray := prog_1_method_38_code
def yX8_back : MethodName := ⟨RX8, "back", "(I)I"⟩
abbrev cX8_sheet : ByteArray := prog_1_method_39_code
def yX8_sheet : MethodName := ⟨RX8, "sheet", "(III)I"⟩
abbrev cX8_lay : ByteArray := prog_1_method_40_code
def yX8_lay : MethodName := ⟨RX8, "lay", "(III)I"⟩
abbrev cX8_read : ByteArray := prog_1_method_41_code
def yX8_read : MethodName := ⟨RX8, "read", "(IIII)I"⟩
abbrev cX8_torn : ByteArray := prog_1_method_42_code
def yX8_torn : MethodName := ⟨RX8, "torn", "()I"⟩
abbrev cX8_count : ByteArray := prog_1_method_43_code
def yX8_count : MethodName := ⟨RX8, "count", "(I)I"⟩
abbrev cX8_isFigure : ByteArray := prog_1_method_44_code
def yX8_isFigure : MethodName := ⟨RX8, "isFigure", "(I)Z"⟩
abbrev cX8_isPair : ByteArray := prog_1_method_45_code
def yX8_isPair : MethodName := ⟨RX8, "isPair", "(II)Z"⟩
abbrev cX8_isSome : ByteArray := prog_1_method_46_code
def yX8_isSome : MethodName := ⟨RX8, "isSome", "(I)Z"⟩
abbrev cX8_isDay : ByteArray := prog_1_method_47_code
def yX8_isDay : MethodName := ⟨RX8, "isDay", "(J)Z"⟩
abbrev cX8_isSpan : ByteArray := prog_1_method_48_code
def yX8_isSpan : MethodName := ⟨RX8, "isSpan", "(JJ)Z"⟩
abbrev cX8_isDayCount : ByteArray := prog_1_method_49_code
def yX8_isDayCount : MethodName := ⟨RX8, "isDayCount", "(I)Z"⟩
abbrev cX8_isDoor : ByteArray := prog_1_method_50_code
def yX8_isDoor : MethodName := ⟨RX8, "isDoor", "(I)Z"⟩
abbrev cX8_isWheel : ByteArray := prog_1_method_51_code
def yX8_isWheel : MethodName := ⟨RX8, "isWheel", "(II)Z"⟩
abbrev cX8_isYesOrNo : ByteArray := prog_1_method_52_code
def yX8_isYesOrNo : MethodName := ⟨RX8, "isYesOrNo", "(I)Z"⟩
abbrev cX8_isImage : ByteArray := prog_1_method_53_code
def yX8_isImage : MethodName := ⟨RX8, "isImage", "(I)Z"⟩
abbrev cX8_isSheet : ByteArray := prog_1_method_54_code
def yX8_isSheet : MethodName := ⟨RX8, "isSheet", "(I)Z"⟩
abbrev cX8_isLane : ByteArray := prog_1_method_55_code
def yX8_isLane : MethodName := ⟨RX8, "isLane", "(I)Z"⟩
abbrev cX8_addSight : ByteArray := prog_1_method_56_code
def yX8_addSight : MethodName := ⟨RX8, "addSight", "(IIZ)I"⟩
abbrev cX8_addSightOf : ByteArray := prog_1_method_57_code
def yX8_addSightOf : MethodName := ⟨RX8, "addSightOf", "(LClockTeeth$Sheet;I)Z"⟩
abbrev cX8_countFrights : ByteArray := prog_1_method_58_code
def yX8_countFrights : MethodName := ⟨RX8, "countFrights", "(JI)V"⟩
abbrev cX8_near : ByteArray := prog_1_method_59_code
def yX8_near : MethodName := ⟨RX8, "near", "(II)I"⟩
abbrev cX8_yearOf : ByteArray := prog_1_method_60_code
def yX8_yearOf : MethodName := ⟨RX8, "yearOf", "(J)J"⟩
abbrev cX8_dayOfYear : ByteArray := prog_1_method_61_code
def yX8_dayOfYear : MethodName := ⟨RX8, "dayOfYear", "(J)I"⟩
abbrev cX8_rest : ByteArray := prog_1_method_62_code
def yX8_rest : MethodName := ⟨RX8, "rest", "(JJ)J"⟩
abbrev cX8_commonDivisor : ByteArray := prog_1_method_63_code
def yX8_commonDivisor : MethodName := ⟨RX8, "commonDivisor", "(JJ)J"⟩
abbrev cX8_lowestBit : ByteArray := prog_1_method_64_code
def yX8_lowestBit : MethodName := ⟨RX8, "lowestBit", "(J)I"⟩
def RX9 : String := "ClockTeethModel"
def TX9 : u_T := fun k => match k with
  | 0 => ("ClockTeethModel", "st", "[I", true)
  | 1 => ("ClockTeethModel", "isKept", "[Z", true)
  | 2 => ("ClockTeethModel", "reach", "I", false)
  | 3 => ("ClockTeethModel", "draft", "[I", true)
  | 4 => ("ClockTeethModel", "dReach", "I", false)
  | 5 => ("ClockTeethModel", "hasReach", "Z", false)
  | 6 => ("ClockTeethModel", "hasStick", "Z", false)
  | 7 => ("ClockTeethModel", "highest", "I", false)
  | 8 => ("ClockTeethModel", "tape", "[I", true)
  | 9 => ("ClockTeethModel", "taped", "I", false)
  | 10 => ("ClockTeethModel", "pos", "I", false)
  | 11 => ("ClockTeethModel", "from", "I", false)
  | 12 => ("ClockTeethModel", "sort", "I", false)
  | 13 => ("ClockTeethModel", "value", "I", false)
  | 14 => ("ClockTeethModel", "fault", "I", false)
  | 15 => ("ClockTeethModel", "wrongAt", "I", false)
  | 16 => ("ClockTeethModel", "rests", "[J", true)
  | 17 => ("ClockTeethModel", "moreRests", "[J", true)
  | 18 => ("ClockTeethModel", "restMany", "I", false)
  | 19 => ("ClockTeethModel", "restBy", "J", false)
  | 20 => ("ClockTeethModel", "cutTeeth", "I", false)
  | 21 => ("ClockTeethModel", "cutFirst", "I", false)
  | 22 => ("ClockTeethModel", "wasCut", "[I", true)
  | 23 => ("ClockTeethModel", "lanes", "[I", true)
  | 24 => ("ClockTeethModel", "sizes", "[I", true)
  | 25 => ("ClockTeethModel", "cells", "[I", true)
  | _ => ("ClockTeethModel", "torn", "I", false)
def tyX9 : Nat → FieldType := fun k => match k with
  | 0 => .array .int
  | 1 => .array .boolean
  | 2 => .int
  | 3 => .array .int
  | 4 => .int
  | 5 => .boolean
  | 6 => .boolean
  | 7 => .int
  | 8 => .array .int
  | 9 => .int
  | 10 => .int
  | 11 => .int
  | 12 => .int
  | 13 => .int
  | 14 => .int
  | 15 => .int
  | 16 => .array .long
  | 17 => .array .long
  | 18 => .int
  | 19 => .long
  | 20 => .int
  | 21 => .int
  | 22 => .array .int
  | 23 => .array .int
  | 24 => .array .int
  | 25 => .array .int
  | _ => .int
abbrev wsX90 : List Cond := u_ws RX9 TX9 27
theorem nmX9 : ∀ a, a < 27 → ∀ b, b < 27 → a ≠ b → (TX9 a).2.1 ≠ (TX9 b).2.1 := by decide +kernel
theorem tyX9_ok : ∀ k, k < 27 → parseFieldDescriptor (TX9 k).2.2.1 = some (tyX9 k) := by decide +kernel
abbrev cX9_init : ByteArray := prog_11_method_1_code
def yX9_init : MethodName := ⟨RX9, "<init>", "()V"⟩
abbrev cX9_in : ByteArray := prog_11_method_3_code
def yX9_in : MethodName := ⟨RX9, "in", "(JJJ)Z"⟩
abbrev cX9_flag : ByteArray := prog_11_method_4_code
def yX9_flag : MethodName := ⟨RX9, "flag", "(Z)I"⟩
abbrev cX9_firstDraft : ByteArray := prog_11_method_5_code
def yX9_firstDraft : MethodName := ⟨RX9, "firstDraft", "()V"⟩
abbrev cX9_keepDraft : ByteArray := prog_11_method_6_code
def yX9_keepDraft : MethodName := ⟨RX9, "keepDraft", "()V"⟩
abbrev cX9_feed : ByteArray := prog_11_method_7_code
def yX9_feed : MethodName := ⟨RX9, "feed", "(J)I"⟩
abbrev cX9_end : ByteArray := prog_11_method_8_code
def yX9_end : MethodName := ⟨RX9, "end", "(I)I"⟩
abbrev cX9_needs : ByteArray := prog_11_method_9_code
def yX9_needs : MethodName := ⟨RX9, "needs", "(ZI)V"⟩
abbrev cX9_look : ByteArray := prog_11_method_10_code
def yX9_look : MethodName := ⟨RX9, "look", "(I)I"⟩
abbrev cX9_is : ByteArray := prog_11_method_11_code
def yX9_is : MethodName := ⟨RX9, "is", "(IIIII)Z"⟩
abbrev cX9_ends : ByteArray := prog_11_method_12_code
def yX9_ends : MethodName := ⟨RX9, "ends", "(III)Z"⟩
abbrev cX9_lineNow : ByteArray := prog_11_method_13_code
def yX9_lineNow : MethodName := ⟨RX9, "lineNow", "()I"⟩
abbrev cX9_kindNow : ByteArray := prog_11_method_14_code
def yX9_kindNow : MethodName := ⟨RX9, "kindNow", "()I"⟩
abbrev cX9_next1 : ByteArray := prog_11_method_15_code
def yX9_next1 : MethodName := ⟨RX9, "next1", "()V"⟩
abbrev cX9_looked : ByteArray := prog_11_method_16_code
def yX9_looked : MethodName := ⟨RX9, "looked", "(II)I"⟩
abbrev cX9_readNumber : ByteArray := prog_11_method_17_code
def yX9_readNumber : MethodName := ⟨RX9, "readNumber", "(II)I"⟩
abbrev cX9_readFigure : ByteArray := prog_11_method_18_code
def yX9_readFigure : MethodName := ⟨RX9, "readFigure", "()V"⟩
abbrev cX9_readVote : ByteArray := prog_11_method_19_code
def yX9_readVote : MethodName := ⟨RX9, "readVote", "()V"⟩
abbrev cX9_readLine : ByteArray := prog_11_method_20_code
def yX9_readLine : MethodName := ⟨RX9, "readLine", "()V"⟩
abbrev cX9_text : ByteArray := prog_11_method_21_code
def yX9_text : MethodName := ⟨RX9, "text", "()I"⟩
abbrev cX9_fault : ByteArray := prog_11_method_22_code
def yX9_fault : MethodName := ⟨RX9, "fault", "()I"⟩
abbrev cX9_rule : ByteArray := prog_11_method_23_code
def yX9_rule : MethodName := ⟨RX9, "rule", "(I)I"⟩
abbrev cX9_isFigure : ByteArray := prog_11_method_24_code
def yX9_isFigure : MethodName := ⟨RX9, "isFigure", "(I)Z"⟩
abbrev cX9_of : ByteArray := prog_11_method_25_code
def yX9_of : MethodName := ⟨RX9, "of", "(II)I"⟩
abbrev cX9_roundOf : ByteArray := prog_11_method_26_code
def yX9_roundOf : MethodName := ⟨RX9, "roundOf", "(I)I"⟩
abbrev cX9_figure : ByteArray := prog_11_method_27_code
def yX9_figure : MethodName := ⟨RX9, "figure", "(II)I"⟩
abbrev cX9_vote : ByteArray := prog_11_method_28_code
def yX9_vote : MethodName := ⟨RX9, "vote", "(II)I"⟩
abbrev cX9_timesOf : ByteArray := prog_11_method_29_code
def yX9_timesOf : MethodName := ⟨RX9, "timesOf", "(I)I"⟩
abbrev cX9_restOf : ByteArray := prog_11_method_30_code
def yX9_restOf : MethodName := ⟨RX9, "restOf", "(II)I"⟩
abbrev cX9_isOut : ByteArray := prog_11_method_31_code
def yX9_isOut : MethodName := ⟨RX9, "isOut", "(IJ)Z"⟩
abbrev cX9_isDay : ByteArray := prog_11_method_32_code
def yX9_isDay : MethodName := ⟨RX9, "isDay", "(J)Z"⟩
abbrev cX9_out : ByteArray := prog_11_method_33_code
def yX9_out : MethodName := ⟨RX9, "out", "(IJ)I"⟩
abbrev cX9_firstBy : ByteArray := prog_11_method_34_code
def yX9_firstBy : MethodName := ⟨RX9, "firstBy", "(JJJ)J"⟩
abbrev cX9_nextOf : ByteArray := prog_11_method_35_code
def yX9_nextOf : MethodName := ⟨RX9, "nextOf", "(IJ)J"⟩
abbrev cX9_toEnd : ByteArray := prog_11_method_36_code
def yX9_toEnd : MethodName := ⟨RX9, "toEnd", "(J)J"⟩
abbrev cX9_next : ByteArray := prog_11_method_37_code
def yX9_next : MethodName := ⟨RX9, "next", "(IJ)J"⟩
abbrev cX9_last : ByteArray := prog_11_method_38_code
def yX9_last : MethodName := ⟨RX9, "last", "(IJ)J"⟩
abbrev cX9_upTo : ByteArray := prog_11_method_39_code
def yX9_upTo : MethodName := ⟨RX9, "upTo", "(JJJ)J"⟩
abbrev cX9_manyBy : ByteArray := prog_11_method_40_code
def yX9_manyBy : MethodName := ⟨RX9, "manyBy", "(JJJJ)J"⟩
abbrev cX9_areDays : ByteArray := prog_11_method_41_code
def yX9_areDays : MethodName := ⟨RX9, "areDays", "(JJ)Z"⟩
abbrev cX9_often : ByteArray := prog_11_method_42_code
def yX9_often : MethodName := ⟨RX9, "often", "(IJJ)J"⟩
abbrev cX9_common : ByteArray := prog_11_method_43_code
def yX9_common : MethodName := ⟨RX9, "common", "(JJ)J"⟩
abbrev cX9_multiple : ByteArray := prog_11_method_44_code
def yX9_multiple : MethodName := ⟨RX9, "multiple", "(JJ)J"⟩
abbrev cX9_startsRests : ByteArray := prog_11_method_45_code
def yX9_startsRests : MethodName := ⟨RX9, "startsRests", "()V"⟩
abbrev cX9_joinsRests : ByteArray := prog_11_method_46_code
def yX9_joinsRests : MethodName := ⟨RX9, "joinsRests", "(I)V"⟩
abbrev cX9_findRests : ByteArray := prog_11_method_47_code
def yX9_findRests : MethodName := ⟨RX9, "findRests", "(I)V"⟩
abbrev cX9_firstOfRests : ByteArray := prog_11_method_48_code
def yX9_firstOfRests : MethodName := ⟨RX9, "firstOfRests", "(J)J"⟩
abbrev cX9_areTwo : ByteArray := prog_11_method_49_code
def yX9_areTwo : MethodName := ⟨RX9, "areTwo", "(II)Z"⟩
abbrev cX9_togetherOf : ByteArray := prog_11_method_50_code
def yX9_togetherOf : MethodName := ⟨RX9, "togetherOf", "(IIJ)J"⟩
abbrev cX9_together : ByteArray := prog_11_method_51_code
def yX9_together : MethodName := ⟨RX9, "together", "(IIJ)J"⟩
abbrev cX9_meetings : ByteArray := prog_11_method_52_code
def yX9_meetings : MethodName := ⟨RX9, "meetings", "(IIJJ)J"⟩
abbrev cX9_areSome : ByteArray := prog_11_method_53_code
def yX9_areSome : MethodName := ⟨RX9, "areSome", "(I)Z"⟩
abbrev cX9_all : ByteArray := prog_11_method_54_code
def yX9_all : MethodName := ⟨RX9, "all", "(IJ)J"⟩
abbrev cX9_cycle : ByteArray := prog_11_method_55_code
def yX9_cycle : MethodName := ⟨RX9, "cycle", "(I)J"⟩
abbrev cX9_doCrash : ByteArray := prog_11_method_56_code
def yX9_doCrash : MethodName := ⟨RX9, "doCrash", "(II)Z"⟩
abbrev cX9_crashOf : ByteArray := prog_11_method_57_code
def yX9_crashOf : MethodName := ⟨RX9, "crashOf", "(I)I"⟩
abbrev cX9_crash : ByteArray := prog_11_method_58_code
def yX9_crash : MethodName := ⟨RX9, "crash", "(I)I"⟩
abbrev cX9_allCrash : ByteArray := prog_11_method_59_code
def yX9_allCrash : MethodName := ⟨RX9, "allCrash", "()I"⟩
abbrev cX9_bitsOf : ByteArray := prog_11_method_60_code
def yX9_bitsOf : MethodName := ⟨RX9, "bitsOf", "(I)I"⟩
abbrev cX9_first : ByteArray := prog_11_method_61_code
def yX9_first : MethodName := ⟨RX9, "first", "(JI)J"⟩
abbrev cX9_ofFour : ByteArray := prog_11_method_62_code
def yX9_ofFour : MethodName := ⟨RX9, "ofFour", "(J)I"⟩
abbrev cX9_dayOf : ByteArray := prog_11_method_63_code
def yX9_dayOf : MethodName := ⟨RX9, "dayOf", "(J)I"⟩
abbrev cX9_date : ByteArray := prog_11_method_64_code
def yX9_date : MethodName := ⟨RX9, "date", "(JI)J"⟩
abbrev cX9_day : ByteArray := prog_11_method_65_code
def yX9_day : MethodName := ⟨RX9, "day", "(II)J"⟩
abbrev cX9_doorOn : ByteArray := prog_11_method_66_code
def yX9_doorOn : MethodName := ⟨RX9, "doorOn", "(IJ)I"⟩
abbrev cX9_by : ByteArray := prog_11_method_67_code
def yX9_by : MethodName := ⟨RX9, "by", "(IJ)I"⟩
abbrev cX9_areMany : ByteArray := prog_11_method_68_code
def yX9_areMany : MethodName := ⟨RX9, "areMany", "(JI)Z"⟩
abbrev cX9_isClash : ByteArray := prog_11_method_69_code
def yX9_isClash : MethodName := ⟨RX9, "isClash", "(J)Z"⟩
abbrev cX9_clashes : ByteArray := prog_11_method_70_code
def yX9_clashes : MethodName := ⟨RX9, "clashes", "(JI)I"⟩
abbrev cX9_stick : ByteArray := prog_11_method_71_code
def yX9_stick : MethodName := ⟨RX9, "stick", "(III)I"⟩
abbrev cX9_quietFirst : ByteArray := prog_11_method_72_code
def yX9_quietFirst : MethodName := ⟨RX9, "quietFirst", "(II)I"⟩
abbrev cX9_mayHave : ByteArray := prog_11_method_73_code
def yX9_mayHave : MethodName := ⟨RX9, "mayHave", "(II)Z"⟩
abbrev cX9_findCut : ByteArray := prog_11_method_74_code
def yX9_findCut : MethodName := ⟨RX9, "findCut", "(I)Z"⟩
abbrev cX9_cut : ByteArray := prog_11_method_75_code
def yX9_cut : MethodName := ⟨RX9, "cut", "(II)I"⟩
abbrev cX9_turn : ByteArray := prog_11_method_76_code
def yX9_turn : MethodName := ⟨RX9, "turn", "(I)I"⟩
abbrev cX9_recut : ByteArray := prog_11_method_77_code
def yX9_recut : MethodName := ⟨RX9, "recut", "(III)I"⟩
abbrev cX9_mend : ByteArray := prog_11_method_78_code
def yX9_mend : MethodName := ⟨RX9, "mend", "(I)I"⟩
abbrev cX9_hold : ByteArray := prog_11_method_79_code
def yX9_hold : MethodName := ⟨RX9, "hold", "(I)I"⟩
abbrev cX9_ask : ByteArray := prog_11_method_80_code
def yX9_ask : MethodName := ⟨RX9, "ask", "(IIIII)I"⟩
abbrev cX9_see : ByteArray := prog_11_method_81_code
def yX9_see : MethodName := ⟨RX9, "see", "(IIZ)I"⟩
abbrev cX9_forget : ByteArray := prog_11_method_82_code
def yX9_forget : MethodName := ⟨RX9, "forget", "(I)I"⟩
abbrev cX9_isFit : ByteArray := prog_11_method_83_code
def yX9_isFit : MethodName := ⟨RX9, "isFit", "(I)Z"⟩
abbrev cX9_error : ByteArray := prog_11_method_84_code
def yX9_error : MethodName := ⟨RX9, "error", "(I)I"⟩
abbrev cX9_isPlainFit : ByteArray := prog_11_method_85_code
def yX9_isPlainFit : MethodName := ⟨RX9, "isPlainFit", "(III)Z"⟩
abbrev cX9_wheels : ByteArray := prog_11_method_86_code
def yX9_wheels : MethodName := ⟨RX9, "wheels", "(II)I"⟩
abbrev cX9_worn : ByteArray := prog_11_method_87_code
def yX9_worn : MethodName := ⟨RX9, "worn", "(I)I"⟩
abbrev cX9_isFright : ByteArray := prog_11_method_88_code
def yX9_isFright : MethodName := ⟨RX9, "isFright", "(IJ)Z"⟩
abbrev cX9_frightOf : ByteArray := prog_11_method_89_code
def yX9_frightOf : MethodName := ⟨RX9, "frightOf", "(IJI)I"⟩
abbrev cX9_fright : ByteArray := prog_11_method_90_code
def yX9_fright : MethodName := ⟨RX9, "fright", "(IJI)I"⟩
abbrev cX9_stand : ByteArray := prog_11_method_91_code
def yX9_stand : MethodName := ⟨RX9, "stand", "(JI)I"⟩
abbrev cX9_copies : ByteArray := prog_11_method_92_code
def yX9_copies : MethodName := ⟨RX9, "copies", "(II)V"⟩
abbrev cX9_keep : ByteArray := prog_11_method_93_code
def yX9_keep : MethodName := ⟨RX9, "keep", "(I)I"⟩
abbrev cX9_back : ByteArray := prog_11_method_94_code
def yX9_back : MethodName := ⟨RX9, "back", "(I)I"⟩
abbrev cX9_isSheet : ByteArray := prog_11_method_95_code
def yX9_isSheet : MethodName := ⟨RX9, "isSheet", "(II)Z"⟩
abbrev cX9_sheet : ByteArray := prog_11_method_96_code
def yX9_sheet : MethodName := ⟨RX9, "sheet", "(III)I"⟩
abbrev cX9_lay : ByteArray := prog_11_method_97_code
def yX9_lay : MethodName := ⟨RX9, "lay", "(III)I"⟩
abbrev cX9_read : ByteArray := prog_11_method_98_code
def yX9_read : MethodName := ⟨RX9, "read", "(IIII)I"⟩
abbrev cX9_torn : ByteArray := prog_11_method_99_code
def yX9_torn : MethodName := ⟨RX9, "torn", "()I"⟩
abbrev cX9_count : ByteArray := prog_11_method_100_code
def yX9_count : MethodName := ⟨RX9, "count", "(I)I"⟩
def RJ13 : String := "java/lang/Long"
def TJ13 : u_T := fun k => match k with
  | _ => ("", "", "", false)
def tyJ13 : Nat → FieldType := fun k => match k with
  | _ => .int
abbrev wsJ130 : List Cond := u_ws RJ13 TJ13 0
theorem nmJ13 : ∀ a, a < 0 → ∀ b, b < 0 → a ≠ b → (TJ13 a).2.1 ≠ (TJ13 b).2.1 := by decide +kernel
theorem tyJ13_ok : ∀ k, k < 0 → parseFieldDescriptor (TJ13 k).2.2.1 = some (tyJ13 k) := by decide +kernel
abbrev cJ13_bitCount_95d88 : ByteArray := prog_12_method_50_code
def yJ13_bitCount_95d88 : MethodName := ⟨RJ13, "bitCount", "(J)I"⟩
def RJ9 : String := "java/lang/Math"
def TJ9 : u_T := fun k => match k with
  | _ => ("", "", "", false)
def tyJ9 : Nat → FieldType := fun k => match k with
  | _ => .int
abbrev wsJ90 : List Cond := u_ws RJ9 TJ9 0
theorem nmJ9 : ∀ a, a < 0 → ∀ b, b < 0 → a ≠ b → (TJ9 a).2.1 ≠ (TJ9 b).2.1 := by decide +kernel
theorem tyJ9_ok : ∀ k, k < 0 → parseFieldDescriptor (TJ9 k).2.2.1 = some (tyJ9 k) := by decide +kernel
abbrev cJ9_max_7cf53 : ByteArray := prog_13_method_65_code
def yJ9_max_7cf53 : MethodName := ⟨RJ9, "max", "(II)I"⟩
abbrev cJ9_max_f86c9 : ByteArray := prog_13_method_66_code
def yJ9_max_f86c9 : MethodName := ⟨RJ9, "max", "(JJ)J"⟩
abbrev cJ9_min_7cf53 : ByteArray := prog_13_method_69_code
def yJ9_min_7cf53 : MethodName := ⟨RJ9, "min", "(II)I"⟩
def RJ0 : String := "java/lang/String"
def TJ0 : u_T := fun k => match k with
  | _ => ("", "", "", false)
def tyJ0 : Nat → FieldType := fun k => match k with
  | _ => .int
abbrev wsJ00 : List Cond := u_ws RJ0 TJ0 0
theorem nmJ0 : ∀ a, a < 0 → ∀ b, b < 0 → a ≠ b → (TJ0 a).2.1 ≠ (TJ0 b).2.1 := by decide +kernel
theorem tyJ0_ok : ∀ k, k < 0 → parseFieldDescriptor (TJ0 k).2.2.1 = some (tyJ0 k) := by decide +kernel
abbrev cJ0_length_8abf5 : ByteArray := prog_14_method_54_code
def yJ0_length_8abf5 : MethodName := ⟨RJ0, "length", "()I"⟩
abbrev cJ0_charAt_5068e : ByteArray := prog_14_method_56_code
def yJ0_charAt_5068e : MethodName := ⟨RJ0, "charAt", "(I)C"⟩
abbrev cJ0_coder_7d493 : ByteArray := prog_14_method_152_code
def yJ0_coder_7d493 : MethodName := ⟨RJ0, "coder", "()B"⟩
abbrev cJ0_isLatin1_aae02 : ByteArray := prog_14_method_154_code
def yJ0_isLatin1_aae02 : MethodName := ⟨RJ0, "isLatin1", "()Z"⟩
abbrev cJ0_checkIndex_df160 : ByteArray := prog_14_method_155_code
def yJ0_checkIndex_df160 : MethodName := ⟨RJ0, "checkIndex", "(II)V"⟩
def RJ1 : String := "java/lang/StringLatin1"
def TJ1 : u_T := fun k => match k with
  | _ => ("", "", "", false)
def tyJ1 : Nat → FieldType := fun k => match k with
  | _ => .int
abbrev wsJ10 : List Cond := u_ws RJ1 TJ1 0
theorem nmJ1 : ∀ a, a < 0 → ∀ b, b < 0 → a ≠ b → (TJ1 a).2.1 ≠ (TJ1 b).2.1 := by decide +kernel
theorem tyJ1_ok : ∀ k, k < 0 → parseFieldDescriptor (TJ1 k).2.2.1 = some (tyJ1 k) := by decide +kernel
abbrev cJ1_charAt_3b067 : ByteArray := prog_15_method_2_code
def yJ1_charAt_3b067 : MethodName := ⟨RJ1, "charAt", "([BI)C"⟩
def RJ2 : String := "java/lang/StringUTF16"
def TJ2 : u_T := fun k => match k with
  | _ => ("", "", "", false)
def tyJ2 : Nat → FieldType := fun k => match k with
  | _ => .int
abbrev wsJ20 : List Cond := u_ws RJ2 TJ2 0
theorem nmJ2 : ∀ a, a < 0 → ∀ b, b < 0 → a ≠ b → (TJ2 a).2.1 ≠ (TJ2 b).2.1 := by decide +kernel
theorem tyJ2_ok : ∀ k, k < 0 → parseFieldDescriptor (TJ2 k).2.2.1 = some (tyJ2 k) := by decide +kernel
abbrev cJ2_getChar_3b067 : ByteArray := prog_16_method_5_code
def yJ2_getChar_3b067 : MethodName := ⟨RJ2, "getChar", "([BI)C"⟩
abbrev cJ2_length_9d52b : ByteArray := prog_16_method_6_code
def yJ2_length_9d52b : MethodName := ⟨RJ2, "length", "([B)I"⟩
abbrev cJ2_charAt_3b067 : ByteArray := prog_16_method_83_code
def yJ2_charAt_3b067 : MethodName := ⟨RJ2, "charAt", "([BI)C"⟩
abbrev cJ2_checkIndex_2214a : ByteArray := prog_16_method_91_code
def yJ2_checkIndex_2214a : MethodName := ⟨RJ2, "checkIndex", "(I[B)V"⟩
def RJ3 : String := "jdk/internal/util/Preconditions"
def TJ3 : u_T := fun k => match k with
  | _ => ("", "", "", false)
def tyJ3 : Nat → FieldType := fun k => match k with
  | _ => .int
abbrev wsJ30 : List Cond := u_ws RJ3 TJ3 0
theorem nmJ3 : ∀ a, a < 0 → ∀ b, b < 0 → a ≠ b → (TJ3 a).2.1 ≠ (TJ3 b).2.1 := by decide +kernel
theorem tyJ3_ok : ∀ k, k < 0 → parseFieldDescriptor (TJ3 k).2.2.1 = some (tyJ3 k) := by decide +kernel
abbrev cJ3_checkIndex_8e157 : ByteArray := prog_17_method_11_code
def yJ3_checkIndex_8e157 : MethodName := ⟨RJ3, "checkIndex", "(IILjava/util/function/BiFunction;)I"⟩
def RL : String := "ClockTeethLaw"
abbrev cL_law : ByteArray := code
def yL_law : MethodName := ⟨RL, "law", "([I)Z"⟩
set_option maxRecDepth 20000 in
abbrev vwCl : List vw_C := [(RX0, TX0, 10), (RX1, TX1, 5), (RX2, TX2, 7), (RX3, TX3, 9), (RX4, TX4, 3), (RX5, TX5, 3), (RX6, TX6, 2), (RX7, TX7, 5), (RX8, TX8, 13), (RX9, TX9, 27)]
end
section
theorem dX0_init_0 : decode cX0_init 0 = .ok (.aload_n 0, 1) := by decide +kernel
theorem dX0_init_1 : decode cX0_init 1 = .ok (.invokespecial 3, 3) := by decide +kernel
theorem dX0_init_4 : decode cX0_init 4 = .ok (.aload_n 0, 1) := by decide +kernel
theorem dX0_init_5 : decode cX0_init 5 = .ok (.bipush 6, 2) := by decide +kernel
theorem dX0_init_7 : decode cX0_init 7 = .ok (.anewarray 9, 3) := by decide +kernel
theorem dX0_init_10 : decode cX0_init 10 = .ok (.putfield 11, 3) := by decide +kernel
theorem dX0_init_13 : decode cX0_init 13 = .ok (.aload_n 0, 1) := by decide +kernel
theorem dX0_init_14 : decode cX0_init 14 = .ok (.bipush 6, 2) := by decide +kernel
theorem dX0_init_16 : decode cX0_init 16 = .ok (.anewarray 17, 3) := by decide +kernel
theorem dX0_init_19 : decode cX0_init 19 = .ok (.putfield 19, 3) := by decide +kernel
theorem dX0_init_22 : decode cX0_init 22 = .ok (.aload_n 0, 1) := by decide +kernel
theorem dX0_init_23 : decode cX0_init 23 = .ok (.bipush 12, 2) := by decide +kernel
theorem dX0_init_25 : decode cX0_init 25 = .ok (.anewarray 23, 3) := by decide +kernel
theorem dX0_init_28 : decode cX0_init 28 = .ok (.putfield 25, 3) := by decide +kernel
theorem dX0_init_31 : decode cX0_init 31 = .ok (.aload_n 0, 1) := by decide +kernel
theorem dX0_init_32 : decode cX0_init 32 = .ok (.iconst 0, 1) := by decide +kernel
theorem dX0_init_33 : decode cX0_init 33 = .ok (.putfield 29, 3) := by decide +kernel
theorem dX0_init_36 : decode cX0_init 36 = .ok (.aload_n 0, 1) := by decide +kernel
theorem dX0_init_37 : decode cX0_init 37 = .ok (.iconst 0, 1) := by decide +kernel
theorem dX0_init_38 : decode cX0_init 38 = .ok (.putfield 33, 3) := by decide +kernel
theorem dX0_init_41 : decode cX0_init 41 = .ok (.aload_n 0, 1) := by decide +kernel
theorem dX0_init_42 : decode cX0_init 42 = .ok (.iconst 0, 1) := by decide +kernel
theorem dX0_init_43 : decode cX0_init 43 = .ok (.putfield 36, 3) := by decide +kernel
theorem dX0_init_46 : decode cX0_init 46 = .ok (.aload_n 0, 1) := by decide +kernel
theorem dX0_init_47 : decode cX0_init 47 = .ok (.bipush (-4), 2) := by decide +kernel
theorem dX0_init_49 : decode cX0_init 49 = .ok (.putfield 39, 3) := by decide +kernel
theorem dX0_init_52 : decode cX0_init 52 = .ok (.aload_n 0, 1) := by decide +kernel
theorem dX0_init_53 : decode cX0_init 53 = .ok (.bipush (-4), 2) := by decide +kernel
theorem dX0_init_55 : decode cX0_init 55 = .ok (.putfield 42, 3) := by decide +kernel
theorem dX0_init_58 : decode cX0_init 58 = .ok (.aload_n 0, 1) := by decide +kernel
theorem dX0_init_59 : decode cX0_init 59 = .ok (.bipush (-4), 2) := by decide +kernel
theorem dX0_init_61 : decode cX0_init 61 = .ok (.putfield 45, 3) := by decide +kernel
theorem dX0_init_64 : decode cX0_init 64 = .ok (.aload_n 0, 1) := by decide +kernel
theorem dX0_init_65 : decode cX0_init 65 = .ok (.iconst 1, 1) := by decide +kernel
theorem dX0_init_66 : decode cX0_init 66 = .ok (.putfield 48, 3) := by decide +kernel
theorem dX0_init_69 : decode cX0_init 69 = .ok (.iconst 0, 1) := by decide +kernel
theorem dX0_init_70 : decode cX0_init 70 = .ok (.istore_n 1, 1) := by decide +kernel
theorem dX0_init_71 : decode cX0_init 71 = .ok (.iload_n 1, 1) := by decide +kernel
theorem dX0_init_72 : decode cX0_init 72 = .ok (.aload_n 0, 1) := by decide +kernel
theorem dX0_init_73 : decode cX0_init 73 = .ok (.getfield 11, 3) := by decide +kernel
theorem dX0_init_76 : decode cX0_init 76 = .ok (.arraylength, 1) := by decide +kernel
theorem dX0_init_77 : decode cX0_init 77 = .ok (.if_icmp .ge 22, 3) := by decide +kernel
theorem dX0_init_80 : decode cX0_init 80 = .ok (.aload_n 0, 1) := by decide +kernel
theorem dX0_init_81 : decode cX0_init 81 = .ok (.getfield 11, 3) := by decide +kernel
theorem dX0_init_84 : decode cX0_init 84 = .ok (.iload_n 1, 1) := by decide +kernel
theorem dX0_init_85 : decode cX0_init 85 = .ok (.new 9, 3) := by decide +kernel
theorem dX0_init_88 : decode cX0_init 88 = .ok (.dup, 1) := by decide +kernel
theorem dX0_init_89 : decode cX0_init 89 = .ok (.invokespecial 51, 3) := by decide +kernel
theorem dX0_init_92 : decode cX0_init 92 = .ok (.aastore, 1) := by decide +kernel
theorem dX0_init_93 : decode cX0_init 93 = .ok (.iinc 1 1, 3) := by decide +kernel
theorem dX0_init_96 : decode cX0_init 96 = .ok (.goto (-25), 3) := by decide +kernel
theorem dX0_init_99 : decode cX0_init 99 = .ok (.iconst 0, 1) := by decide +kernel
theorem dX0_init_100 : decode cX0_init 100 = .ok (.istore_n 1, 1) := by decide +kernel
theorem dX0_init_101 : decode cX0_init 101 = .ok (.iload_n 1, 1) := by decide +kernel
theorem dX0_init_102 : decode cX0_init 102 = .ok (.aload_n 0, 1) := by decide +kernel
theorem dX0_init_103 : decode cX0_init 103 = .ok (.getfield 19, 3) := by decide +kernel
theorem dX0_init_106 : decode cX0_init 106 = .ok (.arraylength, 1) := by decide +kernel
theorem dX0_init_107 : decode cX0_init 107 = .ok (.if_icmp .ge 22, 3) := by decide +kernel
theorem dX0_init_110 : decode cX0_init 110 = .ok (.aload_n 0, 1) := by decide +kernel
theorem dX0_init_111 : decode cX0_init 111 = .ok (.getfield 19, 3) := by decide +kernel
theorem dX0_init_114 : decode cX0_init 114 = .ok (.iload_n 1, 1) := by decide +kernel
theorem dX0_init_115 : decode cX0_init 115 = .ok (.new 17, 3) := by decide +kernel
theorem dX0_init_118 : decode cX0_init 118 = .ok (.dup, 1) := by decide +kernel
theorem dX0_init_119 : decode cX0_init 119 = .ok (.invokespecial 52, 3) := by decide +kernel
theorem dX0_init_122 : decode cX0_init 122 = .ok (.aastore, 1) := by decide +kernel
theorem dX0_init_123 : decode cX0_init 123 = .ok (.iinc 1 1, 3) := by decide +kernel
theorem dX0_init_126 : decode cX0_init 126 = .ok (.goto (-25), 3) := by decide +kernel
theorem dX0_init_129 : decode cX0_init 129 = .ok (.iconst 0, 1) := by decide +kernel
theorem dX0_init_130 : decode cX0_init 130 = .ok (.istore_n 1, 1) := by decide +kernel
theorem dX0_init_131 : decode cX0_init 131 = .ok (.iload_n 1, 1) := by decide +kernel
theorem dX0_init_132 : decode cX0_init 132 = .ok (.aload_n 0, 1) := by decide +kernel
theorem dX0_init_133 : decode cX0_init 133 = .ok (.getfield 25, 3) := by decide +kernel
theorem dX0_init_136 : decode cX0_init 136 = .ok (.arraylength, 1) := by decide +kernel
theorem dX0_init_137 : decode cX0_init 137 = .ok (.if_icmp .ge 22, 3) := by decide +kernel
theorem dX0_init_140 : decode cX0_init 140 = .ok (.aload_n 0, 1) := by decide +kernel
theorem dX0_init_141 : decode cX0_init 141 = .ok (.getfield 25, 3) := by decide +kernel
theorem dX0_init_144 : decode cX0_init 144 = .ok (.iload_n 1, 1) := by decide +kernel
theorem dX0_init_145 : decode cX0_init 145 = .ok (.new 23, 3) := by decide +kernel
theorem dX0_init_148 : decode cX0_init 148 = .ok (.dup, 1) := by decide +kernel
theorem dX0_init_149 : decode cX0_init 149 = .ok (.invokespecial 53, 3) := by decide +kernel
theorem dX0_init_152 : decode cX0_init 152 = .ok (.aastore, 1) := by decide +kernel
theorem dX0_init_153 : decode cX0_init 153 = .ok (.iinc 1 1, 3) := by decide +kernel
theorem dX0_init_156 : decode cX0_init 156 = .ok (.goto (-25), 3) := by decide +kernel
theorem dX0_init_159 : decode cX0_init 159 = .ok (.return_, 1) := by decide +kernel
theorem dX0_empty_0 : decode cX0_empty 0 = .ok (.aload_n 0, 1) := by decide +kernel
theorem dX0_empty_1 : decode cX0_empty 1 = .ok (.iconst 0, 1) := by decide +kernel
theorem dX0_empty_2 : decode cX0_empty 2 = .ok (.putfield 29, 3) := by decide +kernel
theorem dX0_empty_5 : decode cX0_empty 5 = .ok (.aload_n 0, 1) := by decide +kernel
theorem dX0_empty_6 : decode cX0_empty 6 = .ok (.iconst 0, 1) := by decide +kernel
theorem dX0_empty_7 : decode cX0_empty 7 = .ok (.putfield 33, 3) := by decide +kernel
theorem dX0_empty_10 : decode cX0_empty 10 = .ok (.aload_n 0, 1) := by decide +kernel
theorem dX0_empty_11 : decode cX0_empty 11 = .ok (.iconst 0, 1) := by decide +kernel
theorem dX0_empty_12 : decode cX0_empty 12 = .ok (.putfield 36, 3) := by decide +kernel
theorem dX0_empty_15 : decode cX0_empty 15 = .ok (.aload_n 0, 1) := by decide +kernel
theorem dX0_empty_16 : decode cX0_empty 16 = .ok (.iconst 1, 1) := by decide +kernel
theorem dX0_empty_17 : decode cX0_empty 17 = .ok (.putfield 48, 3) := by decide +kernel
theorem dX0_empty_20 : decode cX0_empty 20 = .ok (.aload_n 0, 1) := by decide +kernel
theorem dX0_empty_21 : decode cX0_empty 21 = .ok (.invokevirtual 54, 3) := by decide +kernel
theorem dX0_empty_24 : decode cX0_empty 24 = .ok (.return_, 1) := by decide +kernel
theorem dX0_free_0 : decode cX0_free 0 = .ok (.aload_n 0, 1) := by decide +kernel
theorem dX0_free_1 : decode cX0_free 1 = .ok (.bipush (-4), 2) := by decide +kernel
theorem dX0_free_3 : decode cX0_free 3 = .ok (.bipush (-4), 2) := by decide +kernel
theorem dX0_free_5 : decode cX0_free 5 = .ok (.bipush (-4), 2) := by decide +kernel
theorem dX0_free_7 : decode cX0_free 7 = .ok (.invokevirtual 57, 3) := by decide +kernel
theorem dX0_free_10 : decode cX0_free 10 = .ok (.return_, 1) := by decide +kernel
theorem dX0_jam_0 : decode cX0_jam 0 = .ok (.aload_n 0, 1) := by decide +kernel
theorem dX0_jam_1 : decode cX0_jam 1 = .ok (.iload_n 1, 1) := by decide +kernel
theorem dX0_jam_2 : decode cX0_jam 2 = .ok (.putfield 39, 3) := by decide +kernel
theorem dX0_jam_5 : decode cX0_jam 5 = .ok (.aload_n 0, 1) := by decide +kernel
theorem dX0_jam_6 : decode cX0_jam 6 = .ok (.iload_n 2, 1) := by decide +kernel
theorem dX0_jam_7 : decode cX0_jam 7 = .ok (.putfield 42, 3) := by decide +kernel
theorem dX0_jam_10 : decode cX0_jam 10 = .ok (.aload_n 0, 1) := by decide +kernel
theorem dX0_jam_11 : decode cX0_jam 11 = .ok (.iload_n 3, 1) := by decide +kernel
theorem dX0_jam_12 : decode cX0_jam 12 = .ok (.putfield 45, 3) := by decide +kernel
theorem dX0_jam_15 : decode cX0_jam 15 = .ok (.return_, 1) := by decide +kernel
theorem dX0_become_0 : decode cX0_become 0 = .ok (.iconst 0, 1) := by decide +kernel
theorem dX0_become_1 : decode cX0_become 1 = .ok (.istore_n 2, 1) := by decide +kernel
theorem dX0_become_2 : decode cX0_become 2 = .ok (.iload_n 2, 1) := by decide +kernel
theorem dX0_become_3 : decode cX0_become 3 = .ok (.aload_n 1, 1) := by decide +kernel
theorem dX0_become_4 : decode cX0_become 4 = .ok (.getfield 29, 3) := by decide +kernel
theorem dX0_become_7 : decode cX0_become 7 = .ok (.if_icmp .ge 24, 3) := by decide +kernel
theorem dX0_become_10 : decode cX0_become 10 = .ok (.aload_n 0, 1) := by decide +kernel
theorem dX0_become_11 : decode cX0_become 11 = .ok (.getfield 11, 3) := by decide +kernel
theorem dX0_become_14 : decode cX0_become 14 = .ok (.iload_n 2, 1) := by decide +kernel
theorem dX0_become_15 : decode cX0_become 15 = .ok (.aaload, 1) := by decide +kernel
theorem dX0_become_16 : decode cX0_become 16 = .ok (.aload_n 1, 1) := by decide +kernel
theorem dX0_become_17 : decode cX0_become 17 = .ok (.getfield 11, 3) := by decide +kernel
theorem dX0_become_20 : decode cX0_become 20 = .ok (.iload_n 2, 1) := by decide +kernel
theorem dX0_become_21 : decode cX0_become 21 = .ok (.aaload, 1) := by decide +kernel
theorem dX0_become_22 : decode cX0_become 22 = .ok (.invokevirtual 61, 3) := by decide +kernel
theorem dX0_become_25 : decode cX0_become 25 = .ok (.iinc 2 1, 3) := by decide +kernel
theorem dX0_become_28 : decode cX0_become 28 = .ok (.goto (-26), 3) := by decide +kernel
theorem dX0_become_31 : decode cX0_become 31 = .ok (.iconst 0, 1) := by decide +kernel
theorem dX0_become_32 : decode cX0_become 32 = .ok (.istore_n 2, 1) := by decide +kernel
theorem dX0_become_33 : decode cX0_become 33 = .ok (.iload_n 2, 1) := by decide +kernel
theorem dX0_become_34 : decode cX0_become 34 = .ok (.aload_n 1, 1) := by decide +kernel
theorem dX0_become_35 : decode cX0_become 35 = .ok (.getfield 33, 3) := by decide +kernel
theorem dX0_become_38 : decode cX0_become 38 = .ok (.if_icmp .ge 24, 3) := by decide +kernel
theorem dX0_become_41 : decode cX0_become 41 = .ok (.aload_n 0, 1) := by decide +kernel
theorem dX0_become_42 : decode cX0_become 42 = .ok (.getfield 19, 3) := by decide +kernel
theorem dX0_become_45 : decode cX0_become 45 = .ok (.iload_n 2, 1) := by decide +kernel
theorem dX0_become_46 : decode cX0_become 46 = .ok (.aaload, 1) := by decide +kernel
theorem dX0_become_47 : decode cX0_become 47 = .ok (.aload_n 1, 1) := by decide +kernel
theorem dX0_become_48 : decode cX0_become 48 = .ok (.getfield 19, 3) := by decide +kernel
theorem dX0_become_51 : decode cX0_become 51 = .ok (.iload_n 2, 1) := by decide +kernel
theorem dX0_become_52 : decode cX0_become 52 = .ok (.aaload, 1) := by decide +kernel
theorem dX0_become_53 : decode cX0_become 53 = .ok (.invokevirtual 65, 3) := by decide +kernel
theorem dX0_become_56 : decode cX0_become 56 = .ok (.iinc 2 1, 3) := by decide +kernel
theorem dX0_become_59 : decode cX0_become 59 = .ok (.goto (-26), 3) := by decide +kernel
theorem dX0_become_62 : decode cX0_become 62 = .ok (.iconst 0, 1) := by decide +kernel
theorem dX0_become_63 : decode cX0_become 63 = .ok (.istore_n 2, 1) := by decide +kernel
theorem dX0_become_64 : decode cX0_become 64 = .ok (.iload_n 2, 1) := by decide +kernel
theorem dX0_become_65 : decode cX0_become 65 = .ok (.aload_n 1, 1) := by decide +kernel
theorem dX0_become_66 : decode cX0_become 66 = .ok (.getfield 36, 3) := by decide +kernel
theorem dX0_become_69 : decode cX0_become 69 = .ok (.if_icmp .ge 37, 3) := by decide +kernel
theorem dX0_become_72 : decode cX0_become 72 = .ok (.aload_n 1, 1) := by decide +kernel
theorem dX0_become_73 : decode cX0_become 73 = .ok (.getfield 25, 3) := by decide +kernel
theorem dX0_become_76 : decode cX0_become 76 = .ok (.iload_n 2, 1) := by decide +kernel
theorem dX0_become_77 : decode cX0_become 77 = .ok (.aaload, 1) := by decide +kernel
theorem dX0_become_78 : decode cX0_become 78 = .ok (.astore_n 3, 1) := by decide +kernel
theorem dX0_become_79 : decode cX0_become 79 = .ok (.aload_n 0, 1) := by decide +kernel
theorem dX0_become_80 : decode cX0_become 80 = .ok (.getfield 25, 3) := by decide +kernel
theorem dX0_become_83 : decode cX0_become 83 = .ok (.iload_n 2, 1) := by decide +kernel
theorem dX0_become_84 : decode cX0_become 84 = .ok (.aaload, 1) := by decide +kernel
theorem dX0_become_85 : decode cX0_become 85 = .ok (.aload_n 3, 1) := by decide +kernel
theorem dX0_become_86 : decode cX0_become 86 = .ok (.getfield 68, 3) := by decide +kernel
theorem dX0_become_89 : decode cX0_become 89 = .ok (.aload_n 3, 1) := by decide +kernel
theorem dX0_become_90 : decode cX0_become 90 = .ok (.getfield 71, 3) := by decide +kernel
theorem dX0_become_93 : decode cX0_become 93 = .ok (.aload_n 3, 1) := by decide +kernel
theorem dX0_become_94 : decode cX0_become 94 = .ok (.getfield 74, 3) := by decide +kernel
theorem dX0_become_97 : decode cX0_become 97 = .ok (.invokevirtual 78, 3) := by decide +kernel
theorem dX0_become_100 : decode cX0_become 100 = .ok (.iinc 2 1, 3) := by decide +kernel
theorem dX0_become_103 : decode cX0_become 103 = .ok (.goto (-39), 3) := by decide +kernel
theorem dX0_become_106 : decode cX0_become 106 = .ok (.aload_n 0, 1) := by decide +kernel
theorem dX0_become_107 : decode cX0_become 107 = .ok (.aload_n 1, 1) := by decide +kernel
theorem dX0_become_108 : decode cX0_become 108 = .ok (.getfield 29, 3) := by decide +kernel
theorem dX0_become_111 : decode cX0_become 111 = .ok (.putfield 29, 3) := by decide +kernel
theorem dX0_become_114 : decode cX0_become 114 = .ok (.aload_n 0, 1) := by decide +kernel
theorem dX0_become_115 : decode cX0_become 115 = .ok (.aload_n 1, 1) := by decide +kernel
theorem dX0_become_116 : decode cX0_become 116 = .ok (.getfield 33, 3) := by decide +kernel
theorem dX0_become_119 : decode cX0_become 119 = .ok (.putfield 33, 3) := by decide +kernel
theorem dX0_become_122 : decode cX0_become 122 = .ok (.aload_n 0, 1) := by decide +kernel
theorem dX0_become_123 : decode cX0_become 123 = .ok (.aload_n 1, 1) := by decide +kernel
theorem dX0_become_124 : decode cX0_become 124 = .ok (.getfield 36, 3) := by decide +kernel
theorem dX0_become_127 : decode cX0_become 127 = .ok (.putfield 36, 3) := by decide +kernel
theorem dX0_become_130 : decode cX0_become 130 = .ok (.aload_n 0, 1) := by decide +kernel
theorem dX0_become_131 : decode cX0_become 131 = .ok (.aload_n 1, 1) := by decide +kernel
theorem dX0_become_132 : decode cX0_become 132 = .ok (.getfield 48, 3) := by decide +kernel
theorem dX0_become_135 : decode cX0_become 135 = .ok (.putfield 48, 3) := by decide +kernel
theorem dX0_become_138 : decode cX0_become 138 = .ok (.aload_n 0, 1) := by decide +kernel
theorem dX0_become_139 : decode cX0_become 139 = .ok (.aload_n 1, 1) := by decide +kernel
theorem dX0_become_140 : decode cX0_become 140 = .ok (.getfield 39, 3) := by decide +kernel
theorem dX0_become_143 : decode cX0_become 143 = .ok (.aload_n 1, 1) := by decide +kernel
theorem dX0_become_144 : decode cX0_become 144 = .ok (.getfield 42, 3) := by decide +kernel
theorem dX0_become_147 : decode cX0_become 147 = .ok (.aload_n 1, 1) := by decide +kernel
theorem dX0_become_148 : decode cX0_become 148 = .ok (.getfield 45, 3) := by decide +kernel
theorem dX0_become_151 : decode cX0_become 151 = .ok (.invokevirtual 57, 3) := by decide +kernel
theorem dX0_become_154 : decode cX0_become 154 = .ok (.return_, 1) := by decide +kernel
theorem dX0_leastVoteYear_0 : decode cX0_leastVoteYear 0 = .ok (.aload_n 0, 1) := by decide +kernel
theorem dX0_leastVoteYear_1 : decode cX0_leastVoteYear 1 = .ok (.getfield 33, 3) := by decide +kernel
theorem dX0_leastVoteYear_4 : decode cX0_leastVoteYear 4 = .ok (.ifCond .le 20, 3) := by decide +kernel
theorem dX0_leastVoteYear_7 : decode cX0_leastVoteYear 7 = .ok (.aload_n 0, 1) := by decide +kernel
theorem dX0_leastVoteYear_8 : decode cX0_leastVoteYear 8 = .ok (.getfield 19, 3) := by decide +kernel
theorem dX0_leastVoteYear_11 : decode cX0_leastVoteYear 11 = .ok (.aload_n 0, 1) := by decide +kernel
theorem dX0_leastVoteYear_12 : decode cX0_leastVoteYear 12 = .ok (.getfield 33, 3) := by decide +kernel
theorem dX0_leastVoteYear_15 : decode cX0_leastVoteYear 15 = .ok (.iconst 1, 1) := by decide +kernel
theorem dX0_leastVoteYear_16 : decode cX0_leastVoteYear 16 = .ok (.isub, 1) := by decide +kernel
theorem dX0_leastVoteYear_17 : decode cX0_leastVoteYear 17 = .ok (.aaload, 1) := by decide +kernel
theorem dX0_leastVoteYear_18 : decode cX0_leastVoteYear 18 = .ok (.getfield 82, 3) := by decide +kernel
theorem dX0_leastVoteYear_21 : decode cX0_leastVoteYear 21 = .ok (.goto 4, 3) := by decide +kernel
theorem dX0_leastVoteYear_24 : decode cX0_leastVoteYear 24 = .ok (.iconst 0, 1) := by decide +kernel
theorem dX0_leastVoteYear_25 : decode cX0_leastVoteYear 25 = .ok (.ireturn, 1) := by decide +kernel
theorem dX0_addVote_0 : decode cX0_addVote 0 = .ok (.aload_n 0, 1) := by decide +kernel
theorem dX0_addVote_1 : decode cX0_addVote 1 = .ok (.getfield 19, 3) := by decide +kernel
theorem dX0_addVote_4 : decode cX0_addVote 4 = .ok (.aload_n 0, 1) := by decide +kernel
theorem dX0_addVote_5 : decode cX0_addVote 5 = .ok (.getfield 33, 3) := by decide +kernel
theorem dX0_addVote_8 : decode cX0_addVote 8 = .ok (.aaload, 1) := by decide +kernel
theorem dX0_addVote_9 : decode cX0_addVote 9 = .ok (.astore 6, 2) := by decide +kernel
theorem dX0_addVote_11 : decode cX0_addVote 11 = .ok (.aload 6, 2) := by decide +kernel
theorem dX0_addVote_13 : decode cX0_addVote 13 = .ok (.iload_n 1, 1) := by decide +kernel
theorem dX0_addVote_14 : decode cX0_addVote 14 = .ok (.putfield 82, 3) := by decide +kernel
theorem dX0_addVote_17 : decode cX0_addVote 17 = .ok (.aload 6, 2) := by decide +kernel
theorem dX0_addVote_19 : decode cX0_addVote 19 = .ok (.iload_n 2, 1) := by decide +kernel
theorem dX0_addVote_20 : decode cX0_addVote 20 = .ok (.putfield 85, 3) := by decide +kernel
theorem dX0_addVote_23 : decode cX0_addVote 23 = .ok (.aload 6, 2) := by decide +kernel
theorem dX0_addVote_25 : decode cX0_addVote 25 = .ok (.iload_n 3, 1) := by decide +kernel
theorem dX0_addVote_26 : decode cX0_addVote 26 = .ok (.putfield 88, 3) := by decide +kernel
theorem dX0_addVote_29 : decode cX0_addVote 29 = .ok (.aload 6, 2) := by decide +kernel
theorem dX0_addVote_31 : decode cX0_addVote 31 = .ok (.iload 4, 2) := by decide +kernel
theorem dX0_addVote_33 : decode cX0_addVote 33 = .ok (.putfield 91, 3) := by decide +kernel
theorem dX0_addVote_36 : decode cX0_addVote 36 = .ok (.aload 6, 2) := by decide +kernel
theorem dX0_addVote_38 : decode cX0_addVote 38 = .ok (.iload 5, 2) := by decide +kernel
theorem dX0_addVote_40 : decode cX0_addVote 40 = .ok (.putfield 94, 3) := by decide +kernel
theorem dX0_addVote_43 : decode cX0_addVote 43 = .ok (.aload_n 0, 1) := by decide +kernel
theorem dX0_addVote_44 : decode cX0_addVote 44 = .ok (.dup, 1) := by decide +kernel
theorem dX0_addVote_45 : decode cX0_addVote 45 = .ok (.getfield 33, 3) := by decide +kernel
theorem dX0_addVote_48 : decode cX0_addVote 48 = .ok (.iconst 1, 1) := by decide +kernel
theorem dX0_addVote_49 : decode cX0_addVote 49 = .ok (.iadd, 1) := by decide +kernel
theorem dX0_addVote_50 : decode cX0_addVote 50 = .ok (.putfield 33, 3) := by decide +kernel
theorem dX0_addVote_53 : decode cX0_addVote 53 = .ok (.return_, 1) := by decide +kernel
theorem dX0_holdVotes_0 : decode cX0_holdVotes 0 = .ok (.iconst 0, 1) := by decide +kernel
theorem dX0_holdVotes_1 : decode cX0_holdVotes 1 = .ok (.istore_n 2, 1) := by decide +kernel
theorem dX0_holdVotes_2 : decode cX0_holdVotes 2 = .ok (.iload_n 2, 1) := by decide +kernel
theorem dX0_holdVotes_3 : decode cX0_holdVotes 3 = .ok (.iload_n 1, 1) := by decide +kernel
theorem dX0_holdVotes_4 : decode cX0_holdVotes 4 = .ok (.if_icmp .ge 66, 3) := by decide +kernel
theorem dX0_holdVotes_7 : decode cX0_holdVotes 7 = .ok (.aload_n 0, 1) := by decide +kernel
theorem dX0_holdVotes_8 : decode cX0_holdVotes 8 = .ok (.getfield 19, 3) := by decide +kernel
theorem dX0_holdVotes_11 : decode cX0_holdVotes 11 = .ok (.iload_n 2, 1) := by decide +kernel
theorem dX0_holdVotes_12 : decode cX0_holdVotes 12 = .ok (.aaload, 1) := by decide +kernel
theorem dX0_holdVotes_13 : decode cX0_holdVotes 13 = .ok (.astore_n 3, 1) := by decide +kernel
theorem dX0_holdVotes_14 : decode cX0_holdVotes 14 = .ok (.aload_n 0, 1) := by decide +kernel
theorem dX0_holdVotes_15 : decode cX0_holdVotes 15 = .ok (.getfield 11, 3) := by decide +kernel
theorem dX0_holdVotes_18 : decode cX0_holdVotes 18 = .ok (.aload_n 3, 1) := by decide +kernel
theorem dX0_holdVotes_19 : decode cX0_holdVotes 19 = .ok (.getfield 85, 3) := by decide +kernel
theorem dX0_holdVotes_22 : decode cX0_holdVotes 22 = .ok (.aaload, 1) := by decide +kernel
theorem dX0_holdVotes_23 : decode cX0_holdVotes 23 = .ok (.astore 4, 2) := by decide +kernel
theorem dX0_holdVotes_25 : decode cX0_holdVotes 25 = .ok (.aload 4, 2) := by decide +kernel
theorem dX0_holdVotes_27 : decode cX0_holdVotes 27 = .ok (.aload_n 3, 1) := by decide +kernel
theorem dX0_holdVotes_28 : decode cX0_holdVotes 28 = .ok (.getfield 88, 3) := by decide +kernel
theorem dX0_holdVotes_31 : decode cX0_holdVotes 31 = .ok (.putfield 97, 3) := by decide +kernel
theorem dX0_holdVotes_34 : decode cX0_holdVotes 34 = .ok (.aload 4, 2) := by decide +kernel
theorem dX0_holdVotes_36 : decode cX0_holdVotes 36 = .ok (.aload_n 3, 1) := by decide +kernel
theorem dX0_holdVotes_37 : decode cX0_holdVotes 37 = .ok (.getfield 91, 3) := by decide +kernel
theorem dX0_holdVotes_40 : decode cX0_holdVotes 40 = .ok (.putfield 98, 3) := by decide +kernel
theorem dX0_holdVotes_43 : decode cX0_holdVotes 43 = .ok (.aload 4, 2) := by decide +kernel
theorem dX0_holdVotes_45 : decode cX0_holdVotes 45 = .ok (.aload_n 3, 1) := by decide +kernel
theorem dX0_holdVotes_46 : decode cX0_holdVotes 46 = .ok (.getfield 94, 3) := by decide +kernel
theorem dX0_holdVotes_49 : decode cX0_holdVotes 49 = .ok (.putfield 99, 3) := by decide +kernel
theorem dX0_holdVotes_52 : decode cX0_holdVotes 52 = .ok (.aload 4, 2) := by decide +kernel
theorem dX0_holdVotes_54 : decode cX0_holdVotes 54 = .ok (.iconst 0, 1) := by decide +kernel
theorem dX0_holdVotes_55 : decode cX0_holdVotes 55 = .ok (.putfield 100, 3) := by decide +kernel
theorem dX0_holdVotes_58 : decode cX0_holdVotes 58 = .ok (.aload 4, 2) := by decide +kernel
theorem dX0_holdVotes_60 : decode cX0_holdVotes 60 = .ok (.iconst 0, 1) := by decide +kernel
theorem dX0_holdVotes_61 : decode cX0_holdVotes 61 = .ok (.putfield 103, 3) := by decide +kernel
theorem dX0_holdVotes_64 : decode cX0_holdVotes 64 = .ok (.iinc 2 1, 3) := by decide +kernel
theorem dX0_holdVotes_67 : decode cX0_holdVotes 67 = .ok (.goto (-65), 3) := by decide +kernel
theorem dX0_holdVotes_70 : decode cX0_holdVotes 70 = .ok (.iload_n 1, 1) := by decide +kernel
theorem dX0_holdVotes_71 : decode cX0_holdVotes 71 = .ok (.istore_n 2, 1) := by decide +kernel
theorem dX0_holdVotes_72 : decode cX0_holdVotes 72 = .ok (.iload_n 2, 1) := by decide +kernel
theorem dX0_holdVotes_73 : decode cX0_holdVotes 73 = .ok (.aload_n 0, 1) := by decide +kernel
theorem dX0_holdVotes_74 : decode cX0_holdVotes 74 = .ok (.getfield 33, 3) := by decide +kernel
theorem dX0_holdVotes_77 : decode cX0_holdVotes 77 = .ok (.if_icmp .ge 26, 3) := by decide +kernel
theorem dX0_holdVotes_80 : decode cX0_holdVotes 80 = .ok (.aload_n 0, 1) := by decide +kernel
theorem dX0_holdVotes_81 : decode cX0_holdVotes 81 = .ok (.getfield 19, 3) := by decide +kernel
theorem dX0_holdVotes_84 : decode cX0_holdVotes 84 = .ok (.iload_n 2, 1) := by decide +kernel
theorem dX0_holdVotes_85 : decode cX0_holdVotes 85 = .ok (.iload_n 1, 1) := by decide +kernel
theorem dX0_holdVotes_86 : decode cX0_holdVotes 86 = .ok (.isub, 1) := by decide +kernel
theorem dX0_holdVotes_87 : decode cX0_holdVotes 87 = .ok (.aaload, 1) := by decide +kernel
theorem dX0_holdVotes_88 : decode cX0_holdVotes 88 = .ok (.aload_n 0, 1) := by decide +kernel
theorem dX0_holdVotes_89 : decode cX0_holdVotes 89 = .ok (.getfield 19, 3) := by decide +kernel
theorem dX0_holdVotes_92 : decode cX0_holdVotes 92 = .ok (.iload_n 2, 1) := by decide +kernel
theorem dX0_holdVotes_93 : decode cX0_holdVotes 93 = .ok (.aaload, 1) := by decide +kernel
theorem dX0_holdVotes_94 : decode cX0_holdVotes 94 = .ok (.invokevirtual 65, 3) := by decide +kernel
theorem dX0_holdVotes_97 : decode cX0_holdVotes 97 = .ok (.iinc 2 1, 3) := by decide +kernel
theorem dX0_holdVotes_100 : decode cX0_holdVotes 100 = .ok (.goto (-28), 3) := by decide +kernel
theorem dX0_holdVotes_103 : decode cX0_holdVotes 103 = .ok (.aload_n 0, 1) := by decide +kernel
theorem dX0_holdVotes_104 : decode cX0_holdVotes 104 = .ok (.dup, 1) := by decide +kernel
theorem dX0_holdVotes_105 : decode cX0_holdVotes 105 = .ok (.getfield 33, 3) := by decide +kernel
theorem dX0_holdVotes_108 : decode cX0_holdVotes 108 = .ok (.iload_n 1, 1) := by decide +kernel
theorem dX0_holdVotes_109 : decode cX0_holdVotes 109 = .ok (.isub, 1) := by decide +kernel
theorem dX0_holdVotes_110 : decode cX0_holdVotes 110 = .ok (.putfield 33, 3) := by decide +kernel
theorem dX0_holdVotes_113 : decode cX0_holdVotes 113 = .ok (.return_, 1) := by decide +kernel
theorem dX0_doorOf_0 : decode cX0_doorOf 0 = .ok (.aload_n 1, 1) := by decide +kernel
theorem dX0_doorOf_1 : decode cX0_doorOf 1 = .ok (.getfield 99, 3) := by decide +kernel
theorem dX0_doorOf_4 : decode cX0_doorOf 4 = .ok (.aload_n 0, 1) := by decide +kernel
theorem dX0_doorOf_5 : decode cX0_doorOf 5 = .ok (.getfield 39, 3) := by decide +kernel
theorem dX0_doorOf_8 : decode cX0_doorOf 8 = .ok (.if_icmp .ne 19, 3) := by decide +kernel
theorem dX0_doorOf_11 : decode cX0_doorOf 11 = .ok (.iload_n 2, 1) := by decide +kernel
theorem dX0_doorOf_12 : decode cX0_doorOf 12 = .ok (.aload_n 0, 1) := by decide +kernel
theorem dX0_doorOf_13 : decode cX0_doorOf 13 = .ok (.getfield 42, 3) := by decide +kernel
theorem dX0_doorOf_16 : decode cX0_doorOf 16 = .ok (.if_icmp .lt 11, 3) := by decide +kernel
theorem dX0_doorOf_19 : decode cX0_doorOf 19 = .ok (.iload_n 2, 1) := by decide +kernel
theorem dX0_doorOf_20 : decode cX0_doorOf 20 = .ok (.aload_n 0, 1) := by decide +kernel
theorem dX0_doorOf_21 : decode cX0_doorOf 21 = .ok (.getfield 45, 3) := by decide +kernel
theorem dX0_doorOf_24 : decode cX0_doorOf 24 = .ok (.if_icmp .le 8, 3) := by decide +kernel
theorem dX0_doorOf_27 : decode cX0_doorOf 27 = .ok (.aload_n 1, 1) := by decide +kernel
theorem dX0_doorOf_28 : decode cX0_doorOf 28 = .ok (.getfield 99, 3) := by decide +kernel
theorem dX0_doorOf_31 : decode cX0_doorOf 31 = .ok (.ireturn, 1) := by decide +kernel
theorem dX0_doorOf_32 : decode cX0_doorOf 32 = .ok (.aload_n 1, 1) := by decide +kernel
theorem dX0_doorOf_33 : decode cX0_doorOf 33 = .ok (.getfield 99, 3) := by decide +kernel
theorem dX0_doorOf_36 : decode cX0_doorOf 36 = .ok (.bipush 8, 2) := by decide +kernel
theorem dX0_doorOf_38 : decode cX0_doorOf 38 = .ok (.if_icmp .ge 12, 3) := by decide +kernel
theorem dX0_doorOf_41 : decode cX0_doorOf 41 = .ok (.aload_n 1, 1) := by decide +kernel
theorem dX0_doorOf_42 : decode cX0_doorOf 42 = .ok (.getfield 99, 3) := by decide +kernel
theorem dX0_doorOf_45 : decode cX0_doorOf 45 = .ok (.iconst 1, 1) := by decide +kernel
theorem dX0_doorOf_46 : decode cX0_doorOf 46 = .ok (.iadd, 1) := by decide +kernel
theorem dX0_doorOf_47 : decode cX0_doorOf 47 = .ok (.goto 4, 3) := by decide +kernel
theorem dX0_doorOf_50 : decode cX0_doorOf 50 = .ok (.iconst 0, 1) := by decide +kernel
theorem dX0_doorOf_51 : decode cX0_doorOf 51 = .ok (.ireturn, 1) := by decide +kernel
theorem dX0_doorsOn_0 : decode cX0_doorsOn 0 = .ok (.iconst 0, 1) := by decide +kernel
theorem dX0_doorsOn_1 : decode cX0_doorsOn 1 = .ok (.istore_n 3, 1) := by decide +kernel
theorem dX0_doorsOn_2 : decode cX0_doorsOn 2 = .ok (.lload_n 1, 1) := by decide +kernel
theorem dX0_doorsOn_3 : decode cX0_doorsOn 3 = .ok (.invokestatic 106, 3) := by decide +kernel
theorem dX0_doorsOn_6 : decode cX0_doorsOn 6 = .ok (.istore 4, 2) := by decide +kernel
theorem dX0_doorsOn_8 : decode cX0_doorsOn 8 = .ok (.iconst 0, 1) := by decide +kernel
theorem dX0_doorsOn_9 : decode cX0_doorsOn 9 = .ok (.istore 5, 2) := by decide +kernel
theorem dX0_doorsOn_11 : decode cX0_doorsOn 11 = .ok (.iload 5, 2) := by decide +kernel
theorem dX0_doorsOn_13 : decode cX0_doorsOn 13 = .ok (.aload_n 0, 1) := by decide +kernel
theorem dX0_doorsOn_14 : decode cX0_doorsOn 14 = .ok (.getfield 29, 3) := by decide +kernel
theorem dX0_doorsOn_17 : decode cX0_doorsOn 17 = .ok (.if_icmp .ge 58, 3) := by decide +kernel
theorem dX0_doorsOn_20 : decode cX0_doorsOn 20 = .ok (.aload_n 0, 1) := by decide +kernel
theorem dX0_doorsOn_21 : decode cX0_doorsOn 21 = .ok (.getfield 11, 3) := by decide +kernel
theorem dX0_doorsOn_24 : decode cX0_doorsOn 24 = .ok (.iload 5, 2) := by decide +kernel
theorem dX0_doorsOn_26 : decode cX0_doorsOn 26 = .ok (.aaload, 1) := by decide +kernel
theorem dX0_doorsOn_27 : decode cX0_doorsOn 27 = .ok (.lload_n 1, 1) := by decide +kernel
theorem dX0_doorsOn_28 : decode cX0_doorsOn 28 = .ok (.invokevirtual 110, 3) := by decide +kernel
theorem dX0_doorsOn_31 : decode cX0_doorsOn 31 = .ok (.ifCond .eq 38, 3) := by decide +kernel
theorem dX0_doorsOn_34 : decode cX0_doorsOn 34 = .ok (.iconst 1, 1) := by decide +kernel
theorem dX0_doorsOn_35 : decode cX0_doorsOn 35 = .ok (.aload_n 0, 1) := by decide +kernel
theorem dX0_doorsOn_36 : decode cX0_doorsOn 36 = .ok (.aload_n 0, 1) := by decide +kernel
theorem dX0_doorsOn_37 : decode cX0_doorsOn 37 = .ok (.getfield 11, 3) := by decide +kernel
theorem dX0_doorsOn_40 : decode cX0_doorsOn 40 = .ok (.iload 5, 2) := by decide +kernel
theorem dX0_doorsOn_42 : decode cX0_doorsOn 42 = .ok (.aaload, 1) := by decide +kernel
theorem dX0_doorsOn_43 : decode cX0_doorsOn 43 = .ok (.iload 4, 2) := by decide +kernel
theorem dX0_doorsOn_45 : decode cX0_doorsOn 45 = .ok (.invokevirtual 114, 3) := by decide +kernel
theorem dX0_doorsOn_48 : decode cX0_doorsOn 48 = .ok (.ishl, 1) := by decide +kernel
theorem dX0_doorsOn_49 : decode cX0_doorsOn 49 = .ok (.istore 6, 2) := by decide +kernel
theorem dX0_doorsOn_51 : decode cX0_doorsOn 51 = .ok (.iload_n 3, 1) := by decide +kernel
theorem dX0_doorsOn_52 : decode cX0_doorsOn 52 = .ok (.iload_n 3, 1) := by decide +kernel
theorem dX0_doorsOn_53 : decode cX0_doorsOn 53 = .ok (.iload 6, 2) := by decide +kernel
theorem dX0_doorsOn_55 : decode cX0_doorsOn 55 = .ok (.iand, 1) := by decide +kernel
theorem dX0_doorsOn_56 : decode cX0_doorsOn 56 = .ok (.ifCond .eq 9, 3) := by decide +kernel
theorem dX0_doorsOn_59 : decode cX0_doorsOn 59 = .ok (.sipush 512, 3) := by decide +kernel
theorem dX0_doorsOn_62 : decode cX0_doorsOn 62 = .ok (.goto 5, 3) := by decide +kernel
theorem dX0_doorsOn_65 : decode cX0_doorsOn 65 = .ok (.iload 6, 2) := by decide +kernel
theorem dX0_doorsOn_67 : decode cX0_doorsOn 67 = .ok (.ior, 1) := by decide +kernel
theorem dX0_doorsOn_68 : decode cX0_doorsOn 68 = .ok (.istore_n 3, 1) := by decide +kernel
theorem dX0_doorsOn_69 : decode cX0_doorsOn 69 = .ok (.iinc 5 1, 3) := by decide +kernel
theorem dX0_doorsOn_72 : decode cX0_doorsOn 72 = .ok (.goto (-61), 3) := by decide +kernel
theorem dX0_doorsOn_75 : decode cX0_doorsOn 75 = .ok (.iload_n 3, 1) := by decide +kernel
theorem dX0_doorsOn_76 : decode cX0_doorsOn 76 = .ok (.ireturn, 1) := by decide +kernel
theorem dX0_crashesOf_0 : decode cX0_crashesOf 0 = .ok (.iconst 0, 1) := by decide +kernel
theorem dX0_crashesOf_1 : decode cX0_crashesOf 1 = .ok (.istore_n 2, 1) := by decide +kernel
theorem dX0_crashesOf_2 : decode cX0_crashesOf 2 = .ok (.iconst 0, 1) := by decide +kernel
theorem dX0_crashesOf_3 : decode cX0_crashesOf 3 = .ok (.istore_n 3, 1) := by decide +kernel
theorem dX0_crashesOf_4 : decode cX0_crashesOf 4 = .ok (.iload_n 3, 1) := by decide +kernel
theorem dX0_crashesOf_5 : decode cX0_crashesOf 5 = .ok (.aload_n 0, 1) := by decide +kernel
theorem dX0_crashesOf_6 : decode cX0_crashesOf 6 = .ok (.getfield 29, 3) := by decide +kernel
theorem dX0_crashesOf_9 : decode cX0_crashesOf 9 = .ok (.if_icmp .ge 59, 3) := by decide +kernel
theorem dX0_crashesOf_12 : decode cX0_crashesOf 12 = .ok (.iload_n 3, 1) := by decide +kernel
theorem dX0_crashesOf_13 : decode cX0_crashesOf 13 = .ok (.iload_n 1, 1) := by decide +kernel
theorem dX0_crashesOf_14 : decode cX0_crashesOf 14 = .ok (.if_icmp .eq 48, 3) := by decide +kernel
theorem dX0_crashesOf_17 : decode cX0_crashesOf 17 = .ok (.aload_n 0, 1) := by decide +kernel
theorem dX0_crashesOf_18 : decode cX0_crashesOf 18 = .ok (.getfield 11, 3) := by decide +kernel
theorem dX0_crashesOf_21 : decode cX0_crashesOf 21 = .ok (.iload_n 3, 1) := by decide +kernel
theorem dX0_crashesOf_22 : decode cX0_crashesOf 22 = .ok (.aaload, 1) := by decide +kernel
theorem dX0_crashesOf_23 : decode cX0_crashesOf 23 = .ok (.getfield 99, 3) := by decide +kernel
theorem dX0_crashesOf_26 : decode cX0_crashesOf 26 = .ok (.aload_n 0, 1) := by decide +kernel
theorem dX0_crashesOf_27 : decode cX0_crashesOf 27 = .ok (.getfield 11, 3) := by decide +kernel
theorem dX0_crashesOf_30 : decode cX0_crashesOf 30 = .ok (.iload_n 1, 1) := by decide +kernel
theorem dX0_crashesOf_31 : decode cX0_crashesOf 31 = .ok (.aaload, 1) := by decide +kernel
theorem dX0_crashesOf_32 : decode cX0_crashesOf 32 = .ok (.getfield 99, 3) := by decide +kernel
theorem dX0_crashesOf_35 : decode cX0_crashesOf 35 = .ok (.if_icmp .ne 27, 3) := by decide +kernel
theorem dX0_crashesOf_38 : decode cX0_crashesOf 38 = .ok (.aload_n 0, 1) := by decide +kernel
theorem dX0_crashesOf_39 : decode cX0_crashesOf 39 = .ok (.getfield 11, 3) := by decide +kernel
theorem dX0_crashesOf_42 : decode cX0_crashesOf 42 = .ok (.iload_n 1, 1) := by decide +kernel
theorem dX0_crashesOf_43 : decode cX0_crashesOf 43 = .ok (.aaload, 1) := by decide +kernel
theorem dX0_crashesOf_44 : decode cX0_crashesOf 44 = .ok (.aload_n 0, 1) := by decide +kernel
theorem dX0_crashesOf_45 : decode cX0_crashesOf 45 = .ok (.getfield 11, 3) := by decide +kernel
theorem dX0_crashesOf_48 : decode cX0_crashesOf 48 = .ok (.iload_n 3, 1) := by decide +kernel
theorem dX0_crashesOf_49 : decode cX0_crashesOf 49 = .ok (.aaload, 1) := by decide +kernel
theorem dX0_crashesOf_50 : decode cX0_crashesOf 50 = .ok (.invokevirtual 118, 3) := by decide +kernel
theorem dX0_crashesOf_53 : decode cX0_crashesOf 53 = .ok (.ifCond .eq 9, 3) := by decide +kernel
theorem dX0_crashesOf_56 : decode cX0_crashesOf 56 = .ok (.iload_n 2, 1) := by decide +kernel
theorem dX0_crashesOf_57 : decode cX0_crashesOf 57 = .ok (.iconst 1, 1) := by decide +kernel
theorem dX0_crashesOf_58 : decode cX0_crashesOf 58 = .ok (.iload_n 3, 1) := by decide +kernel
theorem dX0_crashesOf_59 : decode cX0_crashesOf 59 = .ok (.ishl, 1) := by decide +kernel
theorem dX0_crashesOf_60 : decode cX0_crashesOf 60 = .ok (.ior, 1) := by decide +kernel
theorem dX0_crashesOf_61 : decode cX0_crashesOf 61 = .ok (.istore_n 2, 1) := by decide +kernel
theorem dX0_crashesOf_62 : decode cX0_crashesOf 62 = .ok (.iinc 3 1, 3) := by decide +kernel
theorem dX0_crashesOf_65 : decode cX0_crashesOf 65 = .ok (.goto (-61), 3) := by decide +kernel
theorem dX0_crashesOf_68 : decode cX0_crashesOf 68 = .ok (.iload_n 2, 1) := by decide +kernel
theorem dX0_crashesOf_69 : decode cX0_crashesOf 69 = .ok (.ireturn, 1) := by decide +kernel
theorem dX0_howManyCrash_0 : decode cX0_howManyCrash 0 = .ok (.iconst 0, 1) := by decide +kernel
theorem dX0_howManyCrash_1 : decode cX0_howManyCrash 1 = .ok (.istore_n 1, 1) := by decide +kernel
theorem dX0_howManyCrash_2 : decode cX0_howManyCrash 2 = .ok (.iconst 0, 1) := by decide +kernel
theorem dX0_howManyCrash_3 : decode cX0_howManyCrash 3 = .ok (.istore_n 2, 1) := by decide +kernel
theorem dX0_howManyCrash_4 : decode cX0_howManyCrash 4 = .ok (.iload_n 2, 1) := by decide +kernel
theorem dX0_howManyCrash_5 : decode cX0_howManyCrash 5 = .ok (.aload_n 0, 1) := by decide +kernel
theorem dX0_howManyCrash_6 : decode cX0_howManyCrash 6 = .ok (.getfield 29, 3) := by decide +kernel
theorem dX0_howManyCrash_9 : decode cX0_howManyCrash 9 = .ok (.if_icmp .ge 20, 3) := by decide +kernel
theorem dX0_howManyCrash_12 : decode cX0_howManyCrash 12 = .ok (.aload_n 0, 1) := by decide +kernel
theorem dX0_howManyCrash_13 : decode cX0_howManyCrash 13 = .ok (.iload_n 2, 1) := by decide +kernel
theorem dX0_howManyCrash_14 : decode cX0_howManyCrash 14 = .ok (.invokevirtual 122, 3) := by decide +kernel
theorem dX0_howManyCrash_17 : decode cX0_howManyCrash 17 = .ok (.ifCond .eq 6, 3) := by decide +kernel
theorem dX0_howManyCrash_20 : decode cX0_howManyCrash 20 = .ok (.iinc 1 1, 3) := by decide +kernel
theorem dX0_howManyCrash_23 : decode cX0_howManyCrash 23 = .ok (.iinc 2 1, 3) := by decide +kernel
theorem dX0_howManyCrash_26 : decode cX0_howManyCrash 26 = .ok (.goto (-22), 3) := by decide +kernel
theorem dX0_howManyCrash_29 : decode cX0_howManyCrash 29 = .ok (.iload_n 1, 1) := by decide +kernel
theorem dX0_howManyCrash_30 : decode cX0_howManyCrash 30 = .ok (.ireturn, 1) := by decide +kernel
theorem dX0_cutInto_0 : decode cX0_cutInto 0 = .ok (.aload_n 2, 1) := by decide +kernel
theorem dX0_cutInto_1 : decode cX0_cutInto 1 = .ok (.aload_n 0, 1) := by decide +kernel
theorem dX0_cutInto_2 : decode cX0_cutInto 2 = .ok (.getfield 11, 3) := by decide +kernel
theorem dX0_cutInto_5 : decode cX0_cutInto 5 = .ok (.iload_n 1, 1) := by decide +kernel
theorem dX0_cutInto_6 : decode cX0_cutInto 6 = .ok (.aaload, 1) := by decide +kernel
theorem dX0_cutInto_7 : decode cX0_cutInto 7 = .ok (.invokevirtual 61, 3) := by decide +kernel
theorem dX0_cutInto_10 : decode cX0_cutInto 10 = .ok (.aload_n 2, 1) := by decide +kernel
theorem dX0_cutInto_11 : decode cX0_cutInto 11 = .ok (.getfield 97, 3) := by decide +kernel
theorem dX0_cutInto_14 : decode cX0_cutInto 14 = .ok (.istore_n 3, 1) := by decide +kernel
theorem dX0_cutInto_15 : decode cX0_cutInto 15 = .ok (.iconst 0, 1) := by decide +kernel
theorem dX0_cutInto_16 : decode cX0_cutInto 16 = .ok (.istore 4, 2) := by decide +kernel
theorem dX0_cutInto_18 : decode cX0_cutInto 18 = .ok (.iload 4, 2) := by decide +kernel
theorem dX0_cutInto_20 : decode cX0_cutInto 20 = .ok (.bipush 58, 2) := by decide +kernel
theorem dX0_cutInto_22 : decode cX0_cutInto 22 = .ok (.if_icmp .gt 37, 3) := by decide +kernel
theorem dX0_cutInto_25 : decode cX0_cutInto 25 = .ok (.aload_n 0, 1) := by decide +kernel
theorem dX0_cutInto_26 : decode cX0_cutInto 26 = .ok (.iload_n 1, 1) := by decide +kernel
theorem dX0_cutInto_27 : decode cX0_cutInto 27 = .ok (.aload_n 2, 1) := by decide +kernel
theorem dX0_cutInto_28 : decode cX0_cutInto 28 = .ok (.iload_n 3, 1) := by decide +kernel
theorem dX0_cutInto_29 : decode cX0_cutInto 29 = .ok (.iload 4, 2) := by decide +kernel
theorem dX0_cutInto_31 : decode cX0_cutInto 31 = .ok (.isub, 1) := by decide +kernel
theorem dX0_cutInto_32 : decode cX0_cutInto 32 = .ok (.invokevirtual 126, 3) := by decide +kernel
theorem dX0_cutInto_35 : decode cX0_cutInto 35 = .ok (.ifCond .ne 16, 3) := by decide +kernel
theorem dX0_cutInto_38 : decode cX0_cutInto 38 = .ok (.aload_n 0, 1) := by decide +kernel
theorem dX0_cutInto_39 : decode cX0_cutInto 39 = .ok (.iload_n 1, 1) := by decide +kernel
theorem dX0_cutInto_40 : decode cX0_cutInto 40 = .ok (.aload_n 2, 1) := by decide +kernel
theorem dX0_cutInto_41 : decode cX0_cutInto 41 = .ok (.iload_n 3, 1) := by decide +kernel
theorem dX0_cutInto_42 : decode cX0_cutInto 42 = .ok (.iload 4, 2) := by decide +kernel
theorem dX0_cutInto_44 : decode cX0_cutInto 44 = .ok (.iadd, 1) := by decide +kernel
theorem dX0_cutInto_45 : decode cX0_cutInto 45 = .ok (.invokevirtual 126, 3) := by decide +kernel
theorem dX0_cutInto_48 : decode cX0_cutInto 48 = .ok (.ifCond .eq 5, 3) := by decide +kernel
theorem dX0_cutInto_51 : decode cX0_cutInto 51 = .ok (.iconst 1, 1) := by decide +kernel
theorem dX0_cutInto_52 : decode cX0_cutInto 52 = .ok (.ireturn, 1) := by decide +kernel
theorem dX0_cutInto_53 : decode cX0_cutInto 53 = .ok (.iinc 4 1, 3) := by decide +kernel
theorem dX0_cutInto_56 : decode cX0_cutInto 56 = .ok (.goto (-38), 3) := by decide +kernel
theorem dX0_cutInto_59 : decode cX0_cutInto 59 = .ok (.iconst 0, 1) := by decide +kernel
theorem dX0_cutInto_60 : decode cX0_cutInto 60 = .ok (.ireturn, 1) := by decide +kernel
theorem dX0_startFirst_0 : decode cX0_startFirst 0 = .ok (.iload_n 3, 1) := by decide +kernel
theorem dX0_startFirst_1 : decode cX0_startFirst 1 = .ok (.iconst 2, 1) := by decide +kernel
theorem dX0_startFirst_2 : decode cX0_startFirst 2 = .ok (.if_icmp .lt 17, 3) := by decide +kernel
theorem dX0_startFirst_5 : decode cX0_startFirst 5 = .ok (.iload_n 3, 1) := by decide +kernel
theorem dX0_startFirst_6 : decode cX0_startFirst 6 = .ok (.bipush 60, 2) := by decide +kernel
theorem dX0_startFirst_8 : decode cX0_startFirst 8 = .ok (.if_icmp .gt 11, 3) := by decide +kernel
theorem dX0_startFirst_11 : decode cX0_startFirst 11 = .ok (.aload_n 2, 1) := by decide +kernel
theorem dX0_startFirst_12 : decode cX0_startFirst 12 = .ok (.getfield 103, 3) := by decide +kernel
theorem dX0_startFirst_15 : decode cX0_startFirst 15 = .ok (.iload_n 3, 1) := by decide +kernel
theorem dX0_startFirst_16 : decode cX0_startFirst 16 = .ok (.if_icmp .lt 5, 3) := by decide +kernel
theorem dX0_startFirst_19 : decode cX0_startFirst 19 = .ok (.iconst 0, 1) := by decide +kernel
theorem dX0_startFirst_20 : decode cX0_startFirst 20 = .ok (.ireturn, 1) := by decide +kernel
theorem dX0_startFirst_21 : decode cX0_startFirst 21 = .ok (.aload_n 2, 1) := by decide +kernel
theorem dX0_startFirst_22 : decode cX0_startFirst 22 = .ok (.iload_n 3, 1) := by decide +kernel
theorem dX0_startFirst_23 : decode cX0_startFirst 23 = .ok (.putfield 97, 3) := by decide +kernel
theorem dX0_startFirst_26 : decode cX0_startFirst 26 = .ok (.aload_n 0, 1) := by decide +kernel
theorem dX0_startFirst_27 : decode cX0_startFirst 27 = .ok (.iload_n 1, 1) := by decide +kernel
theorem dX0_startFirst_28 : decode cX0_startFirst 28 = .ok (.aload_n 2, 1) := by decide +kernel
theorem dX0_startFirst_29 : decode cX0_startFirst 29 = .ok (.invokevirtual 130, 3) := by decide +kernel
theorem dX0_startFirst_32 : decode cX0_startFirst 32 = .ok (.lstore 4, 2) := by decide +kernel
theorem dX0_startFirst_34 : decode cX0_startFirst 34 = .ok (.aload_n 2, 1) := by decide +kernel
theorem dX0_startFirst_35 : decode cX0_startFirst 35 = .ok (.lload 4, 2) := by decide +kernel
theorem dX0_startFirst_37 : decode cX0_startFirst 37 = .ok (.invokestatic 134, 3) := by decide +kernel
theorem dX0_startFirst_40 : decode cX0_startFirst 40 = .ok (.putfield 98, 3) := by decide +kernel
theorem dX0_startFirst_43 : decode cX0_startFirst 43 = .ok (.lload 4, 2) := by decide +kernel
theorem dX0_startFirst_45 : decode cX0_startFirst 45 = .ok (.lconst 0, 1) := by decide +kernel
theorem dX0_startFirst_46 : decode cX0_startFirst 46 = .ok (.lcmp, 1) := by decide +kernel
theorem dX0_startFirst_47 : decode cX0_startFirst 47 = .ok (.ifCond .eq 7, 3) := by decide +kernel
theorem dX0_startFirst_50 : decode cX0_startFirst 50 = .ok (.iconst 1, 1) := by decide +kernel
theorem dX0_startFirst_51 : decode cX0_startFirst 51 = .ok (.goto 4, 3) := by decide +kernel
theorem dX0_startFirst_54 : decode cX0_startFirst 54 = .ok (.iconst 0, 1) := by decide +kernel
theorem dX0_startFirst_55 : decode cX0_startFirst 55 = .ok (.ireturn, 1) := by decide +kernel
theorem dX0_freeStarts_0 : decode cX0_freeStarts 0 = .ok (.lconst 1, 1) := by decide +kernel
theorem dX0_freeStarts_1 : decode cX0_freeStarts 1 = .ok (.aload_n 2, 1) := by decide +kernel
theorem dX0_freeStarts_2 : decode cX0_freeStarts 2 = .ok (.getfield 97, 3) := by decide +kernel
theorem dX0_freeStarts_5 : decode cX0_freeStarts 5 = .ok (.lshl, 1) := by decide +kernel
theorem dX0_freeStarts_6 : decode cX0_freeStarts 6 = .ok (.lconst 1, 1) := by decide +kernel
theorem dX0_freeStarts_7 : decode cX0_freeStarts 7 = .ok (.lsub, 1) := by decide +kernel
theorem dX0_freeStarts_8 : decode cX0_freeStarts 8 = .ok (.lstore_n 3, 1) := by decide +kernel
theorem dX0_freeStarts_9 : decode cX0_freeStarts 9 = .ok (.iconst 0, 1) := by decide +kernel
theorem dX0_freeStarts_10 : decode cX0_freeStarts 10 = .ok (.istore 5, 2) := by decide +kernel
theorem dX0_freeStarts_12 : decode cX0_freeStarts 12 = .ok (.iload 5, 2) := by decide +kernel
theorem dX0_freeStarts_14 : decode cX0_freeStarts 14 = .ok (.aload_n 0, 1) := by decide +kernel
theorem dX0_freeStarts_15 : decode cX0_freeStarts 15 = .ok (.getfield 29, 3) := by decide +kernel
theorem dX0_freeStarts_18 : decode cX0_freeStarts 18 = .ok (.if_icmp .ge 51, 3) := by decide +kernel
theorem dX0_freeStarts_21 : decode cX0_freeStarts 21 = .ok (.lload_n 3, 1) := by decide +kernel
theorem dX0_freeStarts_22 : decode cX0_freeStarts 22 = .ok (.lconst 0, 1) := by decide +kernel
theorem dX0_freeStarts_23 : decode cX0_freeStarts 23 = .ok (.lcmp, 1) := by decide +kernel
theorem dX0_freeStarts_24 : decode cX0_freeStarts 24 = .ok (.ifCond .eq 45, 3) := by decide +kernel
theorem dX0_freeStarts_27 : decode cX0_freeStarts 27 = .ok (.iload 5, 2) := by decide +kernel
theorem dX0_freeStarts_29 : decode cX0_freeStarts 29 = .ok (.iload_n 1, 1) := by decide +kernel
theorem dX0_freeStarts_30 : decode cX0_freeStarts 30 = .ok (.if_icmp .eq 33, 3) := by decide +kernel
theorem dX0_freeStarts_33 : decode cX0_freeStarts 33 = .ok (.aload_n 0, 1) := by decide +kernel
theorem dX0_freeStarts_34 : decode cX0_freeStarts 34 = .ok (.getfield 11, 3) := by decide +kernel
theorem dX0_freeStarts_37 : decode cX0_freeStarts 37 = .ok (.iload 5, 2) := by decide +kernel
theorem dX0_freeStarts_39 : decode cX0_freeStarts 39 = .ok (.aaload, 1) := by decide +kernel
theorem dX0_freeStarts_40 : decode cX0_freeStarts 40 = .ok (.getfield 99, 3) := by decide +kernel
theorem dX0_freeStarts_43 : decode cX0_freeStarts 43 = .ok (.aload_n 2, 1) := by decide +kernel
theorem dX0_freeStarts_44 : decode cX0_freeStarts 44 = .ok (.getfield 99, 3) := by decide +kernel
theorem dX0_freeStarts_47 : decode cX0_freeStarts 47 = .ok (.if_icmp .ne 16, 3) := by decide +kernel
theorem dX0_freeStarts_50 : decode cX0_freeStarts 50 = .ok (.aload_n 0, 1) := by decide +kernel
theorem dX0_freeStarts_51 : decode cX0_freeStarts 51 = .ok (.getfield 11, 3) := by decide +kernel
theorem dX0_freeStarts_54 : decode cX0_freeStarts 54 = .ok (.iload 5, 2) := by decide +kernel
theorem dX0_freeStarts_56 : decode cX0_freeStarts 56 = .ok (.aaload, 1) := by decide +kernel
theorem dX0_freeStarts_57 : decode cX0_freeStarts 57 = .ok (.aload_n 2, 1) := by decide +kernel
theorem dX0_freeStarts_58 : decode cX0_freeStarts 58 = .ok (.lload_n 3, 1) := by decide +kernel
theorem dX0_freeStarts_59 : decode cX0_freeStarts 59 = .ok (.invokestatic 137, 3) := by decide +kernel
theorem dX0_freeStarts_62 : decode cX0_freeStarts 62 = .ok (.lstore_n 3, 1) := by decide +kernel
theorem dX0_freeStarts_63 : decode cX0_freeStarts 63 = .ok (.iinc 5 1, 3) := by decide +kernel
theorem dX0_freeStarts_66 : decode cX0_freeStarts 66 = .ok (.goto (-54), 3) := by decide +kernel
theorem dX0_freeStarts_69 : decode cX0_freeStarts 69 = .ok (.lload_n 3, 1) := by decide +kernel
theorem dX0_freeStarts_70 : decode cX0_freeStarts 70 = .ok (.lreturn, 1) := by decide +kernel
theorem dX0_freeOf_0 : decode cX0_freeOf 0 = .ok (.aload_n 1, 1) := by decide +kernel
theorem dX0_freeOf_1 : decode cX0_freeOf 1 = .ok (.invokevirtual 141, 3) := by decide +kernel
theorem dX0_freeOf_4 : decode cX0_freeOf 4 = .ok (.i2l, 1) := by decide +kernel
theorem dX0_freeOf_5 : decode cX0_freeOf 5 = .ok (.aload_n 0, 1) := by decide +kernel
theorem dX0_freeOf_6 : decode cX0_freeOf 6 = .ok (.invokevirtual 141, 3) := by decide +kernel
theorem dX0_freeOf_9 : decode cX0_freeOf 9 = .ok (.i2l, 1) := by decide +kernel
theorem dX0_freeOf_10 : decode cX0_freeOf 10 = .ok (.invokestatic 145, 3) := by decide +kernel
theorem dX0_freeOf_13 : decode cX0_freeOf 13 = .ok (.l2i, 1) := by decide +kernel
theorem dX0_freeOf_14 : decode cX0_freeOf 14 = .ok (.istore 4, 2) := by decide +kernel
theorem dX0_freeOf_16 : decode cX0_freeOf 16 = .ok (.lload_n 2, 1) := by decide +kernel
theorem dX0_freeOf_17 : decode cX0_freeOf 17 = .ok (.lstore 5, 2) := by decide +kernel
theorem dX0_freeOf_19 : decode cX0_freeOf 19 = .ok (.iconst 0, 1) := by decide +kernel
theorem dX0_freeOf_20 : decode cX0_freeOf 20 = .ok (.istore 7, 2) := by decide +kernel
theorem dX0_freeOf_22 : decode cX0_freeOf 22 = .ok (.iload 7, 2) := by decide +kernel
theorem dX0_freeOf_24 : decode cX0_freeOf 24 = .ok (.aload_n 1, 1) := by decide +kernel
theorem dX0_freeOf_25 : decode cX0_freeOf 25 = .ok (.invokevirtual 149, 3) := by decide +kernel
theorem dX0_freeOf_28 : decode cX0_freeOf 28 = .ok (.if_icmp .ge 100, 3) := by decide +kernel
theorem dX0_freeOf_31 : decode cX0_freeOf 31 = .ok (.lload 5, 2) := by decide +kernel
theorem dX0_freeOf_33 : decode cX0_freeOf 33 = .ok (.lconst 0, 1) := by decide +kernel
theorem dX0_freeOf_34 : decode cX0_freeOf 34 = .ok (.lcmp, 1) := by decide +kernel
theorem dX0_freeOf_35 : decode cX0_freeOf 35 = .ok (.ifCond .eq 93, 3) := by decide +kernel
theorem dX0_freeOf_38 : decode cX0_freeOf 38 = .ok (.iconst 0, 1) := by decide +kernel
theorem dX0_freeOf_39 : decode cX0_freeOf 39 = .ok (.istore 8, 2) := by decide +kernel
theorem dX0_freeOf_41 : decode cX0_freeOf 41 = .ok (.iload 8, 2) := by decide +kernel
theorem dX0_freeOf_43 : decode cX0_freeOf 43 = .ok (.aload_n 0, 1) := by decide +kernel
theorem dX0_freeOf_44 : decode cX0_freeOf 44 = .ok (.invokevirtual 149, 3) := by decide +kernel
theorem dX0_freeOf_47 : decode cX0_freeOf 47 = .ok (.if_icmp .ge 75, 3) := by decide +kernel
theorem dX0_freeOf_50 : decode cX0_freeOf 50 = .ok (.lload 5, 2) := by decide +kernel
theorem dX0_freeOf_52 : decode cX0_freeOf 52 = .ok (.lconst 0, 1) := by decide +kernel
theorem dX0_freeOf_53 : decode cX0_freeOf 53 = .ok (.lcmp, 1) := by decide +kernel
theorem dX0_freeOf_54 : decode cX0_freeOf 54 = .ok (.ifCond .eq 68, 3) := by decide +kernel
theorem dX0_freeOf_57 : decode cX0_freeOf 57 = .ok (.aload_n 0, 1) := by decide +kernel
theorem dX0_freeOf_58 : decode cX0_freeOf 58 = .ok (.iload 8, 2) := by decide +kernel
theorem dX0_freeOf_60 : decode cX0_freeOf 60 = .ok (.invokevirtual 152, 3) := by decide +kernel
theorem dX0_freeOf_63 : decode cX0_freeOf 63 = .ok (.aload_n 1, 1) := by decide +kernel
theorem dX0_freeOf_64 : decode cX0_freeOf 64 = .ok (.iload 7, 2) := by decide +kernel
theorem dX0_freeOf_66 : decode cX0_freeOf 66 = .ok (.invokevirtual 155, 3) := by decide +kernel
theorem dX0_freeOf_69 : decode cX0_freeOf 69 = .ok (.isub, 1) := by decide +kernel
theorem dX0_freeOf_70 : decode cX0_freeOf 70 = .ok (.i2l, 1) := by decide +kernel
theorem dX0_freeOf_71 : decode cX0_freeOf 71 = .ok (.iload 4, 2) := by decide +kernel
theorem dX0_freeOf_73 : decode cX0_freeOf 73 = .ok (.i2l, 1) := by decide +kernel
theorem dX0_freeOf_74 : decode cX0_freeOf 74 = .ok (.invokestatic 158, 3) := by decide +kernel
theorem dX0_freeOf_77 : decode cX0_freeOf 77 = .ok (.l2i, 1) := by decide +kernel
theorem dX0_freeOf_78 : decode cX0_freeOf 78 = .ok (.istore 9, 2) := by decide +kernel
theorem dX0_freeOf_80 : decode cX0_freeOf 80 = .ok (.iload 9, 2) := by decide +kernel
theorem dX0_freeOf_82 : decode cX0_freeOf 82 = .ok (.istore 10, 2) := by decide +kernel
theorem dX0_freeOf_84 : decode cX0_freeOf 84 = .ok (.iload 10, 2) := by decide +kernel
theorem dX0_freeOf_86 : decode cX0_freeOf 86 = .ok (.aload_n 1, 1) := by decide +kernel
theorem dX0_freeOf_87 : decode cX0_freeOf 87 = .ok (.getfield 97, 3) := by decide +kernel
theorem dX0_freeOf_90 : decode cX0_freeOf 90 = .ok (.if_icmp .ge 26, 3) := by decide +kernel
theorem dX0_freeOf_93 : decode cX0_freeOf 93 = .ok (.lload 5, 2) := by decide +kernel
theorem dX0_freeOf_95 : decode cX0_freeOf 95 = .ok (.lconst 1, 1) := by decide +kernel
theorem dX0_freeOf_96 : decode cX0_freeOf 96 = .ok (.iload 10, 2) := by decide +kernel
theorem dX0_freeOf_98 : decode cX0_freeOf 98 = .ok (.lshl, 1) := by decide +kernel
theorem dX0_freeOf_99 : decode cX0_freeOf 99 = .ok (.ldc2_w 161, 3) := by decide +kernel
theorem dX0_freeOf_102 : decode cX0_freeOf 102 = .ok (.lxor, 1) := by decide +kernel
theorem dX0_freeOf_103 : decode cX0_freeOf 103 = .ok (.land, 1) := by decide +kernel
theorem dX0_freeOf_104 : decode cX0_freeOf 104 = .ok (.lstore 5, 2) := by decide +kernel
theorem dX0_freeOf_106 : decode cX0_freeOf 106 = .ok (.iload 10, 2) := by decide +kernel
theorem dX0_freeOf_108 : decode cX0_freeOf 108 = .ok (.iload 4, 2) := by decide +kernel
theorem dX0_freeOf_110 : decode cX0_freeOf 110 = .ok (.iadd, 1) := by decide +kernel
theorem dX0_freeOf_111 : decode cX0_freeOf 111 = .ok (.istore 10, 2) := by decide +kernel
theorem dX0_freeOf_113 : decode cX0_freeOf 113 = .ok (.goto (-29), 3) := by decide +kernel
theorem dX0_freeOf_116 : decode cX0_freeOf 116 = .ok (.iinc 8 1, 3) := by decide +kernel
theorem dX0_freeOf_119 : decode cX0_freeOf 119 = .ok (.goto (-78), 3) := by decide +kernel
theorem dX0_freeOf_122 : decode cX0_freeOf 122 = .ok (.iinc 7 1, 3) := by decide +kernel
theorem dX0_freeOf_125 : decode cX0_freeOf 125 = .ok (.goto (-103), 3) := by decide +kernel
theorem dX0_freeOf_128 : decode cX0_freeOf 128 = .ok (.lload 5, 2) := by decide +kernel
theorem dX0_freeOf_130 : decode cX0_freeOf 130 = .ok (.lreturn, 1) := by decide +kernel
theorem dX0_fits_0 : decode cX0_fits 0 = .ok (.iconst 0, 1) := by decide +kernel
theorem dX0_fits_1 : decode cX0_fits 1 = .ok (.istore_n 3, 1) := by decide +kernel
theorem dX0_fits_2 : decode cX0_fits 2 = .ok (.iload_n 3, 1) := by decide +kernel
theorem dX0_fits_3 : decode cX0_fits 3 = .ok (.aload_n 0, 1) := by decide +kernel
theorem dX0_fits_4 : decode cX0_fits 4 = .ok (.getfield 36, 3) := by decide +kernel
theorem dX0_fits_7 : decode cX0_fits 7 = .ok (.if_icmp .ge 46, 3) := by decide +kernel
theorem dX0_fits_10 : decode cX0_fits 10 = .ok (.aload_n 0, 1) := by decide +kernel
theorem dX0_fits_11 : decode cX0_fits 11 = .ok (.getfield 25, 3) := by decide +kernel
theorem dX0_fits_14 : decode cX0_fits 14 = .ok (.iload_n 3, 1) := by decide +kernel
theorem dX0_fits_15 : decode cX0_fits 15 = .ok (.aaload, 1) := by decide +kernel
theorem dX0_fits_16 : decode cX0_fits 16 = .ok (.astore 4, 2) := by decide +kernel
theorem dX0_fits_18 : decode cX0_fits 18 = .ok (.aload 4, 2) := by decide +kernel
theorem dX0_fits_20 : decode cX0_fits 20 = .ok (.getfield 68, 3) := by decide +kernel
theorem dX0_fits_23 : decode cX0_fits 23 = .ok (.iload_n 1, 1) := by decide +kernel
theorem dX0_fits_24 : decode cX0_fits 24 = .ok (.if_icmp .ne 23, 3) := by decide +kernel
theorem dX0_fits_27 : decode cX0_fits 27 = .ok (.aload_n 2, 1) := by decide +kernel
theorem dX0_fits_28 : decode cX0_fits 28 = .ok (.aload 4, 2) := by decide +kernel
theorem dX0_fits_30 : decode cX0_fits 30 = .ok (.getfield 71, 3) := by decide +kernel
theorem dX0_fits_33 : decode cX0_fits 33 = .ok (.i2l, 1) := by decide +kernel
theorem dX0_fits_34 : decode cX0_fits 34 = .ok (.invokevirtual 110, 3) := by decide +kernel
theorem dX0_fits_37 : decode cX0_fits 37 = .ok (.aload 4, 2) := by decide +kernel
theorem dX0_fits_39 : decode cX0_fits 39 = .ok (.getfield 74, 3) := by decide +kernel
theorem dX0_fits_42 : decode cX0_fits 42 = .ok (.if_icmp .eq 5, 3) := by decide +kernel
theorem dX0_fits_45 : decode cX0_fits 45 = .ok (.iconst 0, 1) := by decide +kernel
theorem dX0_fits_46 : decode cX0_fits 46 = .ok (.ireturn, 1) := by decide +kernel
theorem dX0_fits_47 : decode cX0_fits 47 = .ok (.iinc 3 1, 3) := by decide +kernel
theorem dX0_fits_50 : decode cX0_fits 50 = .ok (.goto (-48), 3) := by decide +kernel
theorem dX0_fits_53 : decode cX0_fits 53 = .ok (.iconst 1, 1) := by decide +kernel
theorem dX0_fits_54 : decode cX0_fits 54 = .ok (.ireturn, 1) := by decide +kernel
theorem dX0_fittingStarts_0 : decode cX0_fittingStarts 0 = .ok (.lconst 1, 1) := by decide +kernel
theorem dX0_fittingStarts_1 : decode cX0_fittingStarts 1 = .ok (.iload_n 2, 1) := by decide +kernel
theorem dX0_fittingStarts_2 : decode cX0_fittingStarts 2 = .ok (.lshl, 1) := by decide +kernel
theorem dX0_fittingStarts_3 : decode cX0_fittingStarts 3 = .ok (.lconst 1, 1) := by decide +kernel
theorem dX0_fittingStarts_4 : decode cX0_fittingStarts 4 = .ok (.lsub, 1) := by decide +kernel
theorem dX0_fittingStarts_5 : decode cX0_fittingStarts 5 = .ok (.lstore_n 3, 1) := by decide +kernel
theorem dX0_fittingStarts_6 : decode cX0_fittingStarts 6 = .ok (.iconst 0, 1) := by decide +kernel
theorem dX0_fittingStarts_7 : decode cX0_fittingStarts 7 = .ok (.istore 5, 2) := by decide +kernel
theorem dX0_fittingStarts_9 : decode cX0_fittingStarts 9 = .ok (.iload 5, 2) := by decide +kernel
theorem dX0_fittingStarts_11 : decode cX0_fittingStarts 11 = .ok (.aload_n 0, 1) := by decide +kernel
theorem dX0_fittingStarts_12 : decode cX0_fittingStarts 12 = .ok (.getfield 36, 3) := by decide +kernel
theorem dX0_fittingStarts_15 : decode cX0_fittingStarts 15 = .ok (.if_icmp .ge 65, 3) := by decide +kernel
theorem dX0_fittingStarts_18 : decode cX0_fittingStarts 18 = .ok (.aload_n 0, 1) := by decide +kernel
theorem dX0_fittingStarts_19 : decode cX0_fittingStarts 19 = .ok (.getfield 25, 3) := by decide +kernel
theorem dX0_fittingStarts_22 : decode cX0_fittingStarts 22 = .ok (.iload 5, 2) := by decide +kernel
theorem dX0_fittingStarts_24 : decode cX0_fittingStarts 24 = .ok (.aaload, 1) := by decide +kernel
theorem dX0_fittingStarts_25 : decode cX0_fittingStarts 25 = .ok (.astore 6, 2) := by decide +kernel
theorem dX0_fittingStarts_27 : decode cX0_fittingStarts 27 = .ok (.aload 6, 2) := by decide +kernel
theorem dX0_fittingStarts_29 : decode cX0_fittingStarts 29 = .ok (.getfield 68, 3) := by decide +kernel
theorem dX0_fittingStarts_32 : decode cX0_fittingStarts 32 = .ok (.iload_n 1, 1) := by decide +kernel
theorem dX0_fittingStarts_33 : decode cX0_fittingStarts 33 = .ok (.if_icmp .ne 41, 3) := by decide +kernel
theorem dX0_fittingStarts_36 : decode cX0_fittingStarts 36 = .ok (.lconst 1, 1) := by decide +kernel
theorem dX0_fittingStarts_37 : decode cX0_fittingStarts 37 = .ok (.aload 6, 2) := by decide +kernel
theorem dX0_fittingStarts_39 : decode cX0_fittingStarts 39 = .ok (.getfield 71, 3) := by decide +kernel
theorem dX0_fittingStarts_42 : decode cX0_fittingStarts 42 = .ok (.i2l, 1) := by decide +kernel
theorem dX0_fittingStarts_43 : decode cX0_fittingStarts 43 = .ok (.iload_n 2, 1) := by decide +kernel
theorem dX0_fittingStarts_44 : decode cX0_fittingStarts 44 = .ok (.i2l, 1) := by decide +kernel
theorem dX0_fittingStarts_45 : decode cX0_fittingStarts 45 = .ok (.invokestatic 158, 3) := by decide +kernel
theorem dX0_fittingStarts_48 : decode cX0_fittingStarts 48 = .ok (.l2i, 1) := by decide +kernel
theorem dX0_fittingStarts_49 : decode cX0_fittingStarts 49 = .ok (.lshl, 1) := by decide +kernel
theorem dX0_fittingStarts_50 : decode cX0_fittingStarts 50 = .ok (.lstore 7, 2) := by decide +kernel
theorem dX0_fittingStarts_52 : decode cX0_fittingStarts 52 = .ok (.lload_n 3, 1) := by decide +kernel
theorem dX0_fittingStarts_53 : decode cX0_fittingStarts 53 = .ok (.aload 6, 2) := by decide +kernel
theorem dX0_fittingStarts_55 : decode cX0_fittingStarts 55 = .ok (.getfield 74, 3) := by decide +kernel
theorem dX0_fittingStarts_58 : decode cX0_fittingStarts 58 = .ok (.ifCond .eq 8, 3) := by decide +kernel
theorem dX0_fittingStarts_61 : decode cX0_fittingStarts 61 = .ok (.lload 7, 2) := by decide +kernel
theorem dX0_fittingStarts_63 : decode cX0_fittingStarts 63 = .ok (.goto 9, 3) := by decide +kernel
theorem dX0_fittingStarts_66 : decode cX0_fittingStarts 66 = .ok (.lload 7, 2) := by decide +kernel
theorem dX0_fittingStarts_68 : decode cX0_fittingStarts 68 = .ok (.ldc2_w 161, 3) := by decide +kernel
theorem dX0_fittingStarts_71 : decode cX0_fittingStarts 71 = .ok (.lxor, 1) := by decide +kernel
theorem dX0_fittingStarts_72 : decode cX0_fittingStarts 72 = .ok (.land, 1) := by decide +kernel
theorem dX0_fittingStarts_73 : decode cX0_fittingStarts 73 = .ok (.lstore_n 3, 1) := by decide +kernel
theorem dX0_fittingStarts_74 : decode cX0_fittingStarts 74 = .ok (.iinc 5 1, 3) := by decide +kernel
theorem dX0_fittingStarts_77 : decode cX0_fittingStarts 77 = .ok (.goto (-68), 3) := by decide +kernel
theorem dX0_fittingStarts_80 : decode cX0_fittingStarts 80 = .ok (.lload_n 3, 1) := by decide +kernel
theorem dX0_fittingStarts_81 : decode cX0_fittingStarts 81 = .ok (.lreturn, 1) := by decide +kernel
theorem dX1_init_0 : decode cX1_init 0 = .ok (.aload_n 0, 1) := by decide +kernel
theorem dX1_init_1 : decode cX1_init 1 = .ok (.invokespecial 3, 3) := by decide +kernel
theorem dX1_init_4 : decode cX1_init 4 = .ok (.aload_n 0, 1) := by decide +kernel
theorem dX1_init_5 : decode cX1_init 5 = .ok (.iconst 2, 1) := by decide +kernel
theorem dX1_init_6 : decode cX1_init 6 = .ok (.putfield 9, 3) := by decide +kernel
theorem dX1_init_9 : decode cX1_init 9 = .ok (.aload_n 0, 1) := by decide +kernel
theorem dX1_init_10 : decode cX1_init 10 = .ok (.iconst 0, 1) := by decide +kernel
theorem dX1_init_11 : decode cX1_init 11 = .ok (.putfield 15, 3) := by decide +kernel
theorem dX1_init_14 : decode cX1_init 14 = .ok (.aload_n 0, 1) := by decide +kernel
theorem dX1_init_15 : decode cX1_init 15 = .ok (.iconst 0, 1) := by decide +kernel
theorem dX1_init_16 : decode cX1_init 16 = .ok (.putfield 18, 3) := by decide +kernel
theorem dX1_init_19 : decode cX1_init 19 = .ok (.aload_n 0, 1) := by decide +kernel
theorem dX1_init_20 : decode cX1_init 20 = .ok (.iconst 0, 1) := by decide +kernel
theorem dX1_init_21 : decode cX1_init 21 = .ok (.putfield 21, 3) := by decide +kernel
theorem dX1_init_24 : decode cX1_init 24 = .ok (.aload_n 0, 1) := by decide +kernel
theorem dX1_init_25 : decode cX1_init 25 = .ok (.iconst 0, 1) := by decide +kernel
theorem dX1_init_26 : decode cX1_init 26 = .ok (.putfield 24, 3) := by decide +kernel
theorem dX1_init_29 : decode cX1_init 29 = .ok (.return_, 1) := by decide +kernel
theorem dX1_become_0 : decode cX1_become 0 = .ok (.aload_n 0, 1) := by decide +kernel
theorem dX1_become_1 : decode cX1_become 1 = .ok (.aload_n 1, 1) := by decide +kernel
theorem dX1_become_2 : decode cX1_become 2 = .ok (.getfield 9, 3) := by decide +kernel
theorem dX1_become_5 : decode cX1_become 5 = .ok (.putfield 9, 3) := by decide +kernel
theorem dX1_become_8 : decode cX1_become 8 = .ok (.aload_n 0, 1) := by decide +kernel
theorem dX1_become_9 : decode cX1_become 9 = .ok (.aload_n 1, 1) := by decide +kernel
theorem dX1_become_10 : decode cX1_become 10 = .ok (.getfield 15, 3) := by decide +kernel
theorem dX1_become_13 : decode cX1_become 13 = .ok (.putfield 15, 3) := by decide +kernel
theorem dX1_become_16 : decode cX1_become 16 = .ok (.aload_n 0, 1) := by decide +kernel
theorem dX1_become_17 : decode cX1_become 17 = .ok (.aload_n 1, 1) := by decide +kernel
theorem dX1_become_18 : decode cX1_become 18 = .ok (.getfield 18, 3) := by decide +kernel
theorem dX1_become_21 : decode cX1_become 21 = .ok (.putfield 18, 3) := by decide +kernel
theorem dX1_become_24 : decode cX1_become 24 = .ok (.aload_n 0, 1) := by decide +kernel
theorem dX1_become_25 : decode cX1_become 25 = .ok (.aload_n 1, 1) := by decide +kernel
theorem dX1_become_26 : decode cX1_become 26 = .ok (.getfield 21, 3) := by decide +kernel
theorem dX1_become_29 : decode cX1_become 29 = .ok (.putfield 21, 3) := by decide +kernel
theorem dX1_become_32 : decode cX1_become 32 = .ok (.aload_n 0, 1) := by decide +kernel
theorem dX1_become_33 : decode cX1_become 33 = .ok (.aload_n 1, 1) := by decide +kernel
theorem dX1_become_34 : decode cX1_become 34 = .ok (.getfield 24, 3) := by decide +kernel
theorem dX1_become_37 : decode cX1_become 37 = .ok (.putfield 24, 3) := by decide +kernel
theorem dX1_become_40 : decode cX1_become 40 = .ok (.return_, 1) := by decide +kernel
theorem dX1_kind_0 : decode cX1_kind 0 = .ok (.aload_n 0, 1) := by decide +kernel
theorem dX1_kind_1 : decode cX1_kind 1 = .ok (.getfield 21, 3) := by decide +kernel
theorem dX1_kind_4 : decode cX1_kind 4 = .ok (.ifCond .le 7, 3) := by decide +kernel
theorem dX1_kind_7 : decode cX1_kind 7 = .ok (.iconst 1, 1) := by decide +kernel
theorem dX1_kind_8 : decode cX1_kind 8 = .ok (.goto 4, 3) := by decide +kernel
theorem dX1_kind_11 : decode cX1_kind 11 = .ok (.iconst 0, 1) := by decide +kernel
theorem dX1_kind_12 : decode cX1_kind 12 = .ok (.aload_n 0, 1) := by decide +kernel
theorem dX1_kind_13 : decode cX1_kind 13 = .ok (.getfield 24, 3) := by decide +kernel
theorem dX1_kind_16 : decode cX1_kind 16 = .ok (.ifCond .le 7, 3) := by decide +kernel
theorem dX1_kind_19 : decode cX1_kind 19 = .ok (.iconst 2, 1) := by decide +kernel
theorem dX1_kind_20 : decode cX1_kind 20 = .ok (.goto 4, 3) := by decide +kernel
theorem dX1_kind_23 : decode cX1_kind 23 = .ok (.iconst 0, 1) := by decide +kernel
theorem dX1_kind_24 : decode cX1_kind 24 = .ok (.iadd, 1) := by decide +kernel
theorem dX1_kind_25 : decode cX1_kind 25 = .ok (.ireturn, 1) := by decide +kernel
theorem dX1_round_0 : decode cX1_round 0 = .ok (.aload_n 0, 1) := by decide +kernel
theorem dX1_round_1 : decode cX1_round 1 = .ok (.getfield 21, 3) := by decide +kernel
theorem dX1_round_4 : decode cX1_round 4 = .ok (.ifCond .le 17, 3) := by decide +kernel
theorem dX1_round_7 : decode cX1_round 7 = .ok (.aload_n 0, 1) := by decide +kernel
theorem dX1_round_8 : decode cX1_round 8 = .ok (.getfield 21, 3) := by decide +kernel
theorem dX1_round_11 : decode cX1_round 11 = .ok (.aload_n 0, 1) := by decide +kernel
theorem dX1_round_12 : decode cX1_round 12 = .ok (.getfield 9, 3) := by decide +kernel
theorem dX1_round_15 : decode cX1_round 15 = .ok (.imul, 1) := by decide +kernel
theorem dX1_round_16 : decode cX1_round 16 = .ok (.iconst 1, 1) := by decide +kernel
theorem dX1_round_17 : decode cX1_round 17 = .ok (.iadd, 1) := by decide +kernel
theorem dX1_round_18 : decode cX1_round 18 = .ok (.goto 7, 3) := by decide +kernel
theorem dX1_round_21 : decode cX1_round 21 = .ok (.aload_n 0, 1) := by decide +kernel
theorem dX1_round_22 : decode cX1_round 22 = .ok (.getfield 9, 3) := by decide +kernel
theorem dX1_round_25 : decode cX1_round 25 = .ok (.ireturn, 1) := by decide +kernel
theorem dX1_times_0 : decode cX1_times 0 = .ok (.aload_n 0, 1) := by decide +kernel
theorem dX1_times_1 : decode cX1_times 1 = .ok (.getfield 21, 3) := by decide +kernel
theorem dX1_times_4 : decode cX1_times 4 = .ok (.iconst 1, 1) := by decide +kernel
theorem dX1_times_5 : decode cX1_times 5 = .ok (.invokestatic 27, 3) := by decide +kernel
theorem dX1_times_8 : decode cX1_times 8 = .ok (.aload_n 0, 1) := by decide +kernel
theorem dX1_times_9 : decode cX1_times 9 = .ok (.getfield 24, 3) := by decide +kernel
theorem dX1_times_12 : decode cX1_times 12 = .ok (.ifCond .le 7, 3) := by decide +kernel
theorem dX1_times_15 : decode cX1_times 15 = .ok (.iconst 2, 1) := by decide +kernel
theorem dX1_times_16 : decode cX1_times 16 = .ok (.goto 4, 3) := by decide +kernel
theorem dX1_times_19 : decode cX1_times 19 = .ok (.iconst 1, 1) := by decide +kernel
theorem dX1_times_20 : decode cX1_times 20 = .ok (.imul, 1) := by decide +kernel
theorem dX1_times_21 : decode cX1_times 21 = .ok (.ireturn, 1) := by decide +kernel
theorem dX1_offset_0 : decode cX1_offset 0 = .ok (.aload_n 0, 1) := by decide +kernel
theorem dX1_offset_1 : decode cX1_offset 1 = .ok (.getfield 24, 3) := by decide +kernel
theorem dX1_offset_4 : decode cX1_offset 4 = .ok (.ifCond .le 23, 3) := by decide +kernel
theorem dX1_offset_7 : decode cX1_offset 7 = .ok (.iload_n 1, 1) := by decide +kernel
theorem dX1_offset_8 : decode cX1_offset 8 = .ok (.iconst 2, 1) := by decide +kernel
theorem dX1_offset_9 : decode cX1_offset 9 = .ok (.idiv, 1) := by decide +kernel
theorem dX1_offset_10 : decode cX1_offset 10 = .ok (.aload_n 0, 1) := by decide +kernel
theorem dX1_offset_11 : decode cX1_offset 11 = .ok (.getfield 9, 3) := by decide +kernel
theorem dX1_offset_14 : decode cX1_offset 14 = .ok (.imul, 1) := by decide +kernel
theorem dX1_offset_15 : decode cX1_offset 15 = .ok (.iload_n 1, 1) := by decide +kernel
theorem dX1_offset_16 : decode cX1_offset 16 = .ok (.iconst 2, 1) := by decide +kernel
theorem dX1_offset_17 : decode cX1_offset 17 = .ok (.irem, 1) := by decide +kernel
theorem dX1_offset_18 : decode cX1_offset 18 = .ok (.aload_n 0, 1) := by decide +kernel
theorem dX1_offset_19 : decode cX1_offset 19 = .ok (.getfield 24, 3) := by decide +kernel
theorem dX1_offset_22 : decode cX1_offset 22 = .ok (.imul, 1) := by decide +kernel
theorem dX1_offset_23 : decode cX1_offset 23 = .ok (.iadd, 1) := by decide +kernel
theorem dX1_offset_24 : decode cX1_offset 24 = .ok (.goto 9, 3) := by decide +kernel
theorem dX1_offset_27 : decode cX1_offset 27 = .ok (.iload_n 1, 1) := by decide +kernel
theorem dX1_offset_28 : decode cX1_offset 28 = .ok (.aload_n 0, 1) := by decide +kernel
theorem dX1_offset_29 : decode cX1_offset 29 = .ok (.getfield 9, 3) := by decide +kernel
theorem dX1_offset_32 : decode cX1_offset 32 = .ok (.imul, 1) := by decide +kernel
theorem dX1_offset_33 : decode cX1_offset 33 = .ok (.ireturn, 1) := by decide +kernel
theorem dX1_timeOf_0 : decode cX1_timeOf 0 = .ok (.aload_n 0, 1) := by decide +kernel
theorem dX1_timeOf_1 : decode cX1_timeOf 1 = .ok (.getfield 15, 3) := by decide +kernel
theorem dX1_timeOf_4 : decode cX1_timeOf 4 = .ok (.aload_n 0, 1) := by decide +kernel
theorem dX1_timeOf_5 : decode cX1_timeOf 5 = .ok (.iload_n 1, 1) := by decide +kernel
theorem dX1_timeOf_6 : decode cX1_timeOf 6 = .ok (.invokevirtual 33, 3) := by decide +kernel
theorem dX1_timeOf_9 : decode cX1_timeOf 9 = .ok (.iadd, 1) := by decide +kernel
theorem dX1_timeOf_10 : decode cX1_timeOf 10 = .ok (.i2l, 1) := by decide +kernel
theorem dX1_timeOf_11 : decode cX1_timeOf 11 = .ok (.aload_n 0, 1) := by decide +kernel
theorem dX1_timeOf_12 : decode cX1_timeOf 12 = .ok (.invokevirtual 37, 3) := by decide +kernel
theorem dX1_timeOf_15 : decode cX1_timeOf 15 = .ok (.i2l, 1) := by decide +kernel
theorem dX1_timeOf_16 : decode cX1_timeOf 16 = .ok (.invokestatic 41, 3) := by decide +kernel
theorem dX1_timeOf_19 : decode cX1_timeOf 19 = .ok (.l2i, 1) := by decide +kernel
theorem dX1_timeOf_20 : decode cX1_timeOf 20 = .ok (.ireturn, 1) := by decide +kernel
theorem dX1_comesOut_0 : decode cX1_comesOut 0 = .ok (.lload_n 1, 1) := by decide +kernel
theorem dX1_comesOut_1 : decode cX1_comesOut 1 = .ok (.aload_n 0, 1) := by decide +kernel
theorem dX1_comesOut_2 : decode cX1_comesOut 2 = .ok (.getfield 15, 3) := by decide +kernel
theorem dX1_comesOut_5 : decode cX1_comesOut 5 = .ok (.i2l, 1) := by decide +kernel
theorem dX1_comesOut_6 : decode cX1_comesOut 6 = .ok (.lsub, 1) := by decide +kernel
theorem dX1_comesOut_7 : decode cX1_comesOut 7 = .ok (.aload_n 0, 1) := by decide +kernel
theorem dX1_comesOut_8 : decode cX1_comesOut 8 = .ok (.invokevirtual 37, 3) := by decide +kernel
theorem dX1_comesOut_11 : decode cX1_comesOut 11 = .ok (.i2l, 1) := by decide +kernel
theorem dX1_comesOut_12 : decode cX1_comesOut 12 = .ok (.invokestatic 41, 3) := by decide +kernel
theorem dX1_comesOut_15 : decode cX1_comesOut 15 = .ok (.lstore_n 3, 1) := by decide +kernel
theorem dX1_comesOut_16 : decode cX1_comesOut 16 = .ok (.lload_n 3, 1) := by decide +kernel
theorem dX1_comesOut_17 : decode cX1_comesOut 17 = .ok (.aload_n 0, 1) := by decide +kernel
theorem dX1_comesOut_18 : decode cX1_comesOut 18 = .ok (.getfield 21, 3) := by decide +kernel
theorem dX1_comesOut_21 : decode cX1_comesOut 21 = .ok (.iconst 1, 1) := by decide +kernel
theorem dX1_comesOut_22 : decode cX1_comesOut 22 = .ok (.invokestatic 27, 3) := by decide +kernel
theorem dX1_comesOut_25 : decode cX1_comesOut 25 = .ok (.i2l, 1) := by decide +kernel
theorem dX1_comesOut_26 : decode cX1_comesOut 26 = .ok (.aload_n 0, 1) := by decide +kernel
theorem dX1_comesOut_27 : decode cX1_comesOut 27 = .ok (.getfield 9, 3) := by decide +kernel
theorem dX1_comesOut_30 : decode cX1_comesOut 30 = .ok (.i2l, 1) := by decide +kernel
theorem dX1_comesOut_31 : decode cX1_comesOut 31 = .ok (.lmul, 1) := by decide +kernel
theorem dX1_comesOut_32 : decode cX1_comesOut 32 = .ok (.lcmp, 1) := by decide +kernel
theorem dX1_comesOut_33 : decode cX1_comesOut 33 = .ok (.ifCond .lt 5, 3) := by decide +kernel
theorem dX1_comesOut_36 : decode cX1_comesOut 36 = .ok (.iconst 0, 1) := by decide +kernel
theorem dX1_comesOut_37 : decode cX1_comesOut 37 = .ok (.ireturn, 1) := by decide +kernel
theorem dX1_comesOut_38 : decode cX1_comesOut 38 = .ok (.lload_n 3, 1) := by decide +kernel
theorem dX1_comesOut_39 : decode cX1_comesOut 39 = .ok (.aload_n 0, 1) := by decide +kernel
theorem dX1_comesOut_40 : decode cX1_comesOut 40 = .ok (.getfield 9, 3) := by decide +kernel
theorem dX1_comesOut_43 : decode cX1_comesOut 43 = .ok (.i2l, 1) := by decide +kernel
theorem dX1_comesOut_44 : decode cX1_comesOut 44 = .ok (.invokestatic 41, 3) := by decide +kernel
theorem dX1_comesOut_47 : decode cX1_comesOut 47 = .ok (.lstore 5, 2) := by decide +kernel
theorem dX1_comesOut_49 : decode cX1_comesOut 49 = .ok (.lload 5, 2) := by decide +kernel
theorem dX1_comesOut_51 : decode cX1_comesOut 51 = .ok (.lconst 0, 1) := by decide +kernel
theorem dX1_comesOut_52 : decode cX1_comesOut 52 = .ok (.lcmp, 1) := by decide +kernel
theorem dX1_comesOut_53 : decode cX1_comesOut 53 = .ok (.ifCond .eq 21, 3) := by decide +kernel
theorem dX1_comesOut_56 : decode cX1_comesOut 56 = .ok (.aload_n 0, 1) := by decide +kernel
theorem dX1_comesOut_57 : decode cX1_comesOut 57 = .ok (.getfield 24, 3) := by decide +kernel
theorem dX1_comesOut_60 : decode cX1_comesOut 60 = .ok (.ifCond .le 18, 3) := by decide +kernel
theorem dX1_comesOut_63 : decode cX1_comesOut 63 = .ok (.lload 5, 2) := by decide +kernel
theorem dX1_comesOut_65 : decode cX1_comesOut 65 = .ok (.aload_n 0, 1) := by decide +kernel
theorem dX1_comesOut_66 : decode cX1_comesOut 66 = .ok (.getfield 24, 3) := by decide +kernel
theorem dX1_comesOut_69 : decode cX1_comesOut 69 = .ok (.i2l, 1) := by decide +kernel
theorem dX1_comesOut_70 : decode cX1_comesOut 70 = .ok (.lcmp, 1) := by decide +kernel
theorem dX1_comesOut_71 : decode cX1_comesOut 71 = .ok (.ifCond .ne 7, 3) := by decide +kernel
theorem dX1_comesOut_74 : decode cX1_comesOut 74 = .ok (.iconst 1, 1) := by decide +kernel
theorem dX1_comesOut_75 : decode cX1_comesOut 75 = .ok (.goto 4, 3) := by decide +kernel
theorem dX1_comesOut_78 : decode cX1_comesOut 78 = .ok (.iconst 0, 1) := by decide +kernel
theorem dX1_comesOut_79 : decode cX1_comesOut 79 = .ok (.ireturn, 1) := by decide +kernel
theorem dX1_meets_0 : decode cX1_meets 0 = .ok (.aload_n 0, 1) := by decide +kernel
theorem dX1_meets_1 : decode cX1_meets 1 = .ok (.invokevirtual 37, 3) := by decide +kernel
theorem dX1_meets_4 : decode cX1_meets 4 = .ok (.i2l, 1) := by decide +kernel
theorem dX1_meets_5 : decode cX1_meets 5 = .ok (.aload_n 1, 1) := by decide +kernel
theorem dX1_meets_6 : decode cX1_meets 6 = .ok (.invokevirtual 37, 3) := by decide +kernel
theorem dX1_meets_9 : decode cX1_meets 9 = .ok (.i2l, 1) := by decide +kernel
theorem dX1_meets_10 : decode cX1_meets 10 = .ok (.invokestatic 45, 3) := by decide +kernel
theorem dX1_meets_13 : decode cX1_meets 13 = .ok (.lstore_n 2, 1) := by decide +kernel
theorem dX1_meets_14 : decode cX1_meets 14 = .ok (.iconst 0, 1) := by decide +kernel
theorem dX1_meets_15 : decode cX1_meets 15 = .ok (.istore 4, 2) := by decide +kernel
theorem dX1_meets_17 : decode cX1_meets 17 = .ok (.iload 4, 2) := by decide +kernel
theorem dX1_meets_19 : decode cX1_meets 19 = .ok (.aload_n 0, 1) := by decide +kernel
theorem dX1_meets_20 : decode cX1_meets 20 = .ok (.invokevirtual 48, 3) := by decide +kernel
theorem dX1_meets_23 : decode cX1_meets 23 = .ok (.if_icmp .ge 52, 3) := by decide +kernel
theorem dX1_meets_26 : decode cX1_meets 26 = .ok (.iconst 0, 1) := by decide +kernel
theorem dX1_meets_27 : decode cX1_meets 27 = .ok (.istore 5, 2) := by decide +kernel
theorem dX1_meets_29 : decode cX1_meets 29 = .ok (.iload 5, 2) := by decide +kernel
theorem dX1_meets_31 : decode cX1_meets 31 = .ok (.aload_n 1, 1) := by decide +kernel
theorem dX1_meets_32 : decode cX1_meets 32 = .ok (.invokevirtual 48, 3) := by decide +kernel
theorem dX1_meets_35 : decode cX1_meets 35 = .ok (.if_icmp .ge 34, 3) := by decide +kernel
theorem dX1_meets_38 : decode cX1_meets 38 = .ok (.aload_n 0, 1) := by decide +kernel
theorem dX1_meets_39 : decode cX1_meets 39 = .ok (.iload 4, 2) := by decide +kernel
theorem dX1_meets_41 : decode cX1_meets 41 = .ok (.invokevirtual 51, 3) := by decide +kernel
theorem dX1_meets_44 : decode cX1_meets 44 = .ok (.aload_n 1, 1) := by decide +kernel
theorem dX1_meets_45 : decode cX1_meets 45 = .ok (.iload 5, 2) := by decide +kernel
theorem dX1_meets_47 : decode cX1_meets 47 = .ok (.invokevirtual 51, 3) := by decide +kernel
theorem dX1_meets_50 : decode cX1_meets 50 = .ok (.isub, 1) := by decide +kernel
theorem dX1_meets_51 : decode cX1_meets 51 = .ok (.i2l, 1) := by decide +kernel
theorem dX1_meets_52 : decode cX1_meets 52 = .ok (.lload_n 2, 1) := by decide +kernel
theorem dX1_meets_53 : decode cX1_meets 53 = .ok (.invokestatic 41, 3) := by decide +kernel
theorem dX1_meets_56 : decode cX1_meets 56 = .ok (.lconst 0, 1) := by decide +kernel
theorem dX1_meets_57 : decode cX1_meets 57 = .ok (.lcmp, 1) := by decide +kernel
theorem dX1_meets_58 : decode cX1_meets 58 = .ok (.ifCond .ne 5, 3) := by decide +kernel
theorem dX1_meets_61 : decode cX1_meets 61 = .ok (.iconst 1, 1) := by decide +kernel
theorem dX1_meets_62 : decode cX1_meets 62 = .ok (.ireturn, 1) := by decide +kernel
theorem dX1_meets_63 : decode cX1_meets 63 = .ok (.iinc 5 1, 3) := by decide +kernel
theorem dX1_meets_66 : decode cX1_meets 66 = .ok (.goto (-37), 3) := by decide +kernel
theorem dX1_meets_69 : decode cX1_meets 69 = .ok (.iinc 4 1, 3) := by decide +kernel
theorem dX1_meets_72 : decode cX1_meets 72 = .ok (.goto (-55), 3) := by decide +kernel
theorem dX1_meets_75 : decode cX1_meets 75 = .ok (.iconst 0, 1) := by decide +kernel
theorem dX1_meets_76 : decode cX1_meets 76 = .ok (.ireturn, 1) := by decide +kernel
theorem dX2_init_0 : decode cX2_init 0 = .ok (.aload_n 0, 1) := by decide +kernel
theorem dX2_init_1 : decode cX2_init 1 = .ok (.invokespecial 3, 3) := by decide +kernel
theorem dX2_init_4 : decode cX2_init 4 = .ok (.aload_n 0, 1) := by decide +kernel
theorem dX2_init_5 : decode cX2_init 5 = .ok (.bipush 6, 2) := by decide +kernel
theorem dX2_init_7 : decode cX2_init 7 = .ok (.anewarray 9, 3) := by decide +kernel
theorem dX2_init_10 : decode cX2_init 10 = .ok (.putfield 11, 3) := by decide +kernel
theorem dX2_init_13 : decode cX2_init 13 = .ok (.aload_n 0, 1) := by decide +kernel
theorem dX2_init_14 : decode cX2_init 14 = .ok (.bipush 7, 2) := by decide +kernel
theorem dX2_init_16 : decode cX2_init 16 = .ok (.newarray .long, 2) := by decide +kernel
theorem dX2_init_18 : decode cX2_init 18 = .ok (.putfield 17, 3) := by decide +kernel
theorem dX2_init_21 : decode cX2_init 21 = .ok (.aload_n 0, 1) := by decide +kernel
theorem dX2_init_22 : decode cX2_init 22 = .ok (.bipush 6, 2) := by decide +kernel
theorem dX2_init_24 : decode cX2_init 24 = .ok (.newarray .long, 2) := by decide +kernel
theorem dX2_init_26 : decode cX2_init 26 = .ok (.putfield 21, 3) := by decide +kernel
theorem dX2_init_29 : decode cX2_init 29 = .ok (.aload_n 0, 1) := by decide +kernel
theorem dX2_init_30 : decode cX2_init 30 = .ok (.bipush 6, 2) := by decide +kernel
theorem dX2_init_32 : decode cX2_init 32 = .ok (.newarray .long, 2) := by decide +kernel
theorem dX2_init_34 : decode cX2_init 34 = .ok (.putfield 24, 3) := by decide +kernel
theorem dX2_init_37 : decode cX2_init 37 = .ok (.aload_n 0, 1) := by decide +kernel
theorem dX2_init_38 : decode cX2_init 38 = .ok (.iconst 0, 1) := by decide +kernel
theorem dX2_init_39 : decode cX2_init 39 = .ok (.putfield 27, 3) := by decide +kernel
theorem dX2_init_42 : decode cX2_init 42 = .ok (.aload_n 0, 1) := by decide +kernel
theorem dX2_init_43 : decode cX2_init 43 = .ok (.lconst 0, 1) := by decide +kernel
theorem dX2_init_44 : decode cX2_init 44 = .ok (.putfield 31, 3) := by decide +kernel
theorem dX2_init_47 : decode cX2_init 47 = .ok (.aload_n 0, 1) := by decide +kernel
theorem dX2_init_48 : decode cX2_init 48 = .ok (.lconst 0, 1) := by decide +kernel
theorem dX2_init_49 : decode cX2_init 49 = .ok (.putfield 35, 3) := by decide +kernel
theorem dX2_init_52 : decode cX2_init 52 = .ok (.iconst 0, 1) := by decide +kernel
theorem dX2_init_53 : decode cX2_init 53 = .ok (.istore_n 1, 1) := by decide +kernel
theorem dX2_init_54 : decode cX2_init 54 = .ok (.iload_n 1, 1) := by decide +kernel
theorem dX2_init_55 : decode cX2_init 55 = .ok (.aload_n 0, 1) := by decide +kernel
theorem dX2_init_56 : decode cX2_init 56 = .ok (.getfield 11, 3) := by decide +kernel
theorem dX2_init_59 : decode cX2_init 59 = .ok (.arraylength, 1) := by decide +kernel
theorem dX2_init_60 : decode cX2_init 60 = .ok (.if_icmp .ge 22, 3) := by decide +kernel
theorem dX2_init_63 : decode cX2_init 63 = .ok (.aload_n 0, 1) := by decide +kernel
theorem dX2_init_64 : decode cX2_init 64 = .ok (.getfield 11, 3) := by decide +kernel
theorem dX2_init_67 : decode cX2_init 67 = .ok (.iload_n 1, 1) := by decide +kernel
theorem dX2_init_68 : decode cX2_init 68 = .ok (.new 9, 3) := by decide +kernel
theorem dX2_init_71 : decode cX2_init 71 = .ok (.dup, 1) := by decide +kernel
theorem dX2_init_72 : decode cX2_init 72 = .ok (.invokespecial 38, 3) := by decide +kernel
theorem dX2_init_75 : decode cX2_init 75 = .ok (.aastore, 1) := by decide +kernel
theorem dX2_init_76 : decode cX2_init 76 = .ok (.iinc 1 1, 3) := by decide +kernel
theorem dX2_init_79 : decode cX2_init 79 = .ok (.goto (-25), 3) := by decide +kernel
theorem dX2_init_82 : decode cX2_init 82 = .ok (.return_, 1) := by decide +kernel
theorem dX2_commonRound_0 : decode cX2_commonRound 0 = .ok (.aload_n 0, 1) := by decide +kernel
theorem dX2_commonRound_1 : decode cX2_commonRound 1 = .ok (.aload_n 1, 1) := by decide +kernel
theorem dX2_commonRound_2 : decode cX2_commonRound 2 = .ok (.iload_n 2, 1) := by decide +kernel
theorem dX2_commonRound_3 : decode cX2_commonRound 3 = .ok (.invokevirtual 39, 3) := by decide +kernel
theorem dX2_commonRound_6 : decode cX2_commonRound 6 = .ok (.aload_n 0, 1) := by decide +kernel
theorem dX2_commonRound_7 : decode cX2_commonRound 7 = .ok (.getfield 17, 3) := by decide +kernel
theorem dX2_commonRound_10 : decode cX2_commonRound 10 = .ok (.aload_n 0, 1) := by decide +kernel
theorem dX2_commonRound_11 : decode cX2_commonRound 11 = .ok (.getfield 27, 3) := by decide +kernel
theorem dX2_commonRound_14 : decode cX2_commonRound 14 = .ok (.laload, 1) := by decide +kernel
theorem dX2_commonRound_15 : decode cX2_commonRound 15 = .ok (.lreturn, 1) := by decide +kernel
theorem dX2_earliest_0 : decode cX2_earliest 0 = .ok (.aload_n 0, 1) := by decide +kernel
theorem dX2_earliest_1 : decode cX2_earliest 1 = .ok (.aload_n 1, 1) := by decide +kernel
theorem dX2_earliest_2 : decode cX2_earliest 2 = .ok (.iload_n 2, 1) := by decide +kernel
theorem dX2_earliest_3 : decode cX2_earliest 3 = .ok (.invokevirtual 39, 3) := by decide +kernel
theorem dX2_earliest_6 : decode cX2_earliest 6 = .ok (.aload_n 0, 1) := by decide +kernel
theorem dX2_earliest_7 : decode cX2_earliest 7 = .ok (.lload_n 3, 1) := by decide +kernel
theorem dX2_earliest_8 : decode cX2_earliest 8 = .ok (.putfield 31, 3) := by decide +kernel
theorem dX2_earliest_11 : decode cX2_earliest 11 = .ok (.aload_n 0, 1) := by decide +kernel
theorem dX2_earliest_12 : decode cX2_earliest 12 = .ok (.ldc2_w 43, 3) := by decide +kernel
theorem dX2_earliest_15 : decode cX2_earliest 15 = .ok (.lload_n 3, 1) := by decide +kernel
theorem dX2_earliest_16 : decode cX2_earliest 16 = .ok (.lsub, 1) := by decide +kernel
theorem dX2_earliest_17 : decode cX2_earliest 17 = .ok (.lconst 1, 1) := by decide +kernel
theorem dX2_earliest_18 : decode cX2_earliest 18 = .ok (.ladd, 1) := by decide +kernel
theorem dX2_earliest_19 : decode cX2_earliest 19 = .ok (.putfield 35, 3) := by decide +kernel
theorem dX2_earliest_22 : decode cX2_earliest 22 = .ok (.aload_n 0, 1) := by decide +kernel
theorem dX2_earliest_23 : decode cX2_earliest 23 = .ok (.iconst 0, 1) := by decide +kernel
theorem dX2_earliest_24 : decode cX2_earliest 24 = .ok (.lconst 0, 1) := by decide +kernel
theorem dX2_earliest_25 : decode cX2_earliest 25 = .ok (.invokestatic 45, 3) := by decide +kernel
theorem dX2_earliest_28 : decode cX2_earliest 28 = .ok (.aload_n 0, 1) := by decide +kernel
theorem dX2_earliest_29 : decode cX2_earliest 29 = .ok (.getfield 35, 3) := by decide +kernel
theorem dX2_earliest_32 : decode cX2_earliest 32 = .ok (.ldc2_w 43, 3) := by decide +kernel
theorem dX2_earliest_35 : decode cX2_earliest 35 = .ok (.lload_n 3, 1) := by decide +kernel
theorem dX2_earliest_36 : decode cX2_earliest 36 = .ok (.lsub, 1) := by decide +kernel
theorem dX2_earliest_37 : decode cX2_earliest 37 = .ok (.lcmp, 1) := by decide +kernel
theorem dX2_earliest_38 : decode cX2_earliest 38 = .ok (.ifCond .gt 12, 3) := by decide +kernel
theorem dX2_earliest_41 : decode cX2_earliest 41 = .ok (.lload_n 3, 1) := by decide +kernel
theorem dX2_earliest_42 : decode cX2_earliest 42 = .ok (.aload_n 0, 1) := by decide +kernel
theorem dX2_earliest_43 : decode cX2_earliest 43 = .ok (.getfield 35, 3) := by decide +kernel
theorem dX2_earliest_46 : decode cX2_earliest 46 = .ok (.ladd, 1) := by decide +kernel
theorem dX2_earliest_47 : decode cX2_earliest 47 = .ok (.goto 6, 3) := by decide +kernel
theorem dX2_earliest_50 : decode cX2_earliest 50 = .ok (.ldc2_w 49, 3) := by decide +kernel
theorem dX2_earliest_53 : decode cX2_earliest 53 = .ok (.lreturn, 1) := by decide +kernel
theorem dX2_howOften_0 : decode cX2_howOften 0 = .ok (.aload_n 0, 1) := by decide +kernel
theorem dX2_howOften_1 : decode cX2_howOften 1 = .ok (.aload_n 1, 1) := by decide +kernel
theorem dX2_howOften_2 : decode cX2_howOften 2 = .ok (.iload_n 2, 1) := by decide +kernel
theorem dX2_howOften_3 : decode cX2_howOften 3 = .ok (.invokevirtual 39, 3) := by decide +kernel
theorem dX2_howOften_6 : decode cX2_howOften 6 = .ok (.aload_n 0, 1) := by decide +kernel
theorem dX2_howOften_7 : decode cX2_howOften 7 = .ok (.lload_n 3, 1) := by decide +kernel
theorem dX2_howOften_8 : decode cX2_howOften 8 = .ok (.putfield 31, 3) := by decide +kernel
theorem dX2_howOften_11 : decode cX2_howOften 11 = .ok (.aload_n 0, 1) := by decide +kernel
theorem dX2_howOften_12 : decode cX2_howOften 12 = .ok (.iconst 0, 1) := by decide +kernel
theorem dX2_howOften_13 : decode cX2_howOften 13 = .ok (.lconst 0, 1) := by decide +kernel
theorem dX2_howOften_14 : decode cX2_howOften 14 = .ok (.lload 5, 2) := by decide +kernel
theorem dX2_howOften_16 : decode cX2_howOften 16 = .ok (.lload_n 3, 1) := by decide +kernel
theorem dX2_howOften_17 : decode cX2_howOften 17 = .ok (.lsub, 1) := by decide +kernel
theorem dX2_howOften_18 : decode cX2_howOften 18 = .ok (.invokestatic 51, 3) := by decide +kernel
theorem dX2_howOften_21 : decode cX2_howOften 21 = .ok (.lreturn, 1) := by decide +kernel
theorem dX2_choose_0 : decode cX2_choose 0 = .ok (.aload_n 0, 1) := by decide +kernel
theorem dX2_choose_1 : decode cX2_choose 1 = .ok (.iconst 0, 1) := by decide +kernel
theorem dX2_choose_2 : decode cX2_choose 2 = .ok (.putfield 27, 3) := by decide +kernel
theorem dX2_choose_5 : decode cX2_choose 5 = .ok (.aload_n 0, 1) := by decide +kernel
theorem dX2_choose_6 : decode cX2_choose 6 = .ok (.getfield 17, 3) := by decide +kernel
theorem dX2_choose_9 : decode cX2_choose 9 = .ok (.iconst 0, 1) := by decide +kernel
theorem dX2_choose_10 : decode cX2_choose 10 = .ok (.lconst 1, 1) := by decide +kernel
theorem dX2_choose_11 : decode cX2_choose 11 = .ok (.lastore, 1) := by decide +kernel
theorem dX2_choose_12 : decode cX2_choose 12 = .ok (.iconst 0, 1) := by decide +kernel
theorem dX2_choose_13 : decode cX2_choose 13 = .ok (.istore_n 3, 1) := by decide +kernel
theorem dX2_choose_14 : decode cX2_choose 14 = .ok (.iload_n 3, 1) := by decide +kernel
theorem dX2_choose_15 : decode cX2_choose 15 = .ok (.bipush 6, 2) := by decide +kernel
theorem dX2_choose_17 : decode cX2_choose 17 = .ok (.if_icmp .ge 24, 3) := by decide +kernel
theorem dX2_choose_20 : decode cX2_choose 20 = .ok (.iload_n 2, 1) := by decide +kernel
theorem dX2_choose_21 : decode cX2_choose 21 = .ok (.iload_n 3, 1) := by decide +kernel
theorem dX2_choose_22 : decode cX2_choose 22 = .ok (.ishr, 1) := by decide +kernel
theorem dX2_choose_23 : decode cX2_choose 23 = .ok (.iconst 1, 1) := by decide +kernel
theorem dX2_choose_24 : decode cX2_choose 24 = .ok (.iand, 1) := by decide +kernel
theorem dX2_choose_25 : decode cX2_choose 25 = .ok (.ifCond .eq 10, 3) := by decide +kernel
theorem dX2_choose_28 : decode cX2_choose 28 = .ok (.aload_n 0, 1) := by decide +kernel
theorem dX2_choose_29 : decode cX2_choose 29 = .ok (.aload_n 1, 1) := by decide +kernel
theorem dX2_choose_30 : decode cX2_choose 30 = .ok (.iload_n 3, 1) := by decide +kernel
theorem dX2_choose_31 : decode cX2_choose 31 = .ok (.aaload, 1) := by decide +kernel
theorem dX2_choose_32 : decode cX2_choose 32 = .ok (.invokevirtual 55, 3) := by decide +kernel
theorem dX2_choose_35 : decode cX2_choose 35 = .ok (.iinc 3 1, 3) := by decide +kernel
theorem dX2_choose_38 : decode cX2_choose 38 = .ok (.goto (-24), 3) := by decide +kernel
theorem dX2_choose_41 : decode cX2_choose 41 = .ok (.return_, 1) := by decide +kernel
theorem dX2_addLevel_0 : decode cX2_addLevel 0 = .ok (.aload_n 0, 1) := by decide +kernel
theorem dX2_addLevel_1 : decode cX2_addLevel 1 = .ok (.getfield 17, 3) := by decide +kernel
theorem dX2_addLevel_4 : decode cX2_addLevel 4 = .ok (.aload_n 0, 1) := by decide +kernel
theorem dX2_addLevel_5 : decode cX2_addLevel 5 = .ok (.getfield 27, 3) := by decide +kernel
theorem dX2_addLevel_8 : decode cX2_addLevel 8 = .ok (.laload, 1) := by decide +kernel
theorem dX2_addLevel_9 : decode cX2_addLevel 9 = .ok (.aload_n 1, 1) := by decide +kernel
theorem dX2_addLevel_10 : decode cX2_addLevel 10 = .ok (.invokevirtual 59, 3) := by decide +kernel
theorem dX2_addLevel_13 : decode cX2_addLevel 13 = .ok (.i2l, 1) := by decide +kernel
theorem dX2_addLevel_14 : decode cX2_addLevel 14 = .ok (.invokestatic 63, 3) := by decide +kernel
theorem dX2_addLevel_17 : decode cX2_addLevel 17 = .ok (.lstore_n 2, 1) := by decide +kernel
theorem dX2_addLevel_18 : decode cX2_addLevel 18 = .ok (.aload_n 1, 1) := by decide +kernel
theorem dX2_addLevel_19 : decode cX2_addLevel 19 = .ok (.invokevirtual 59, 3) := by decide +kernel
theorem dX2_addLevel_22 : decode cX2_addLevel 22 = .ok (.i2l, 1) := by decide +kernel
theorem dX2_addLevel_23 : decode cX2_addLevel 23 = .ok (.lload_n 2, 1) := by decide +kernel
theorem dX2_addLevel_24 : decode cX2_addLevel 24 = .ok (.ldiv, 1) := by decide +kernel
theorem dX2_addLevel_25 : decode cX2_addLevel 25 = .ok (.lstore 4, 2) := by decide +kernel
theorem dX2_addLevel_27 : decode cX2_addLevel 27 = .ok (.aload_n 0, 1) := by decide +kernel
theorem dX2_addLevel_28 : decode cX2_addLevel 28 = .ok (.getfield 11, 3) := by decide +kernel
theorem dX2_addLevel_31 : decode cX2_addLevel 31 = .ok (.aload_n 0, 1) := by decide +kernel
theorem dX2_addLevel_32 : decode cX2_addLevel 32 = .ok (.getfield 27, 3) := by decide +kernel
theorem dX2_addLevel_35 : decode cX2_addLevel 35 = .ok (.aaload, 1) := by decide +kernel
theorem dX2_addLevel_36 : decode cX2_addLevel 36 = .ok (.aload_n 1, 1) := by decide +kernel
theorem dX2_addLevel_37 : decode cX2_addLevel 37 = .ok (.invokevirtual 67, 3) := by decide +kernel
theorem dX2_addLevel_40 : decode cX2_addLevel 40 = .ok (.aload_n 0, 1) := by decide +kernel
theorem dX2_addLevel_41 : decode cX2_addLevel 41 = .ok (.getfield 21, 3) := by decide +kernel
theorem dX2_addLevel_44 : decode cX2_addLevel 44 = .ok (.aload_n 0, 1) := by decide +kernel
theorem dX2_addLevel_45 : decode cX2_addLevel 45 = .ok (.getfield 27, 3) := by decide +kernel
theorem dX2_addLevel_48 : decode cX2_addLevel 48 = .ok (.lload_n 2, 1) := by decide +kernel
theorem dX2_addLevel_49 : decode cX2_addLevel 49 = .ok (.lastore, 1) := by decide +kernel
theorem dX2_addLevel_50 : decode cX2_addLevel 50 = .ok (.aload_n 0, 1) := by decide +kernel
theorem dX2_addLevel_51 : decode cX2_addLevel 51 = .ok (.getfield 24, 3) := by decide +kernel
theorem dX2_addLevel_54 : decode cX2_addLevel 54 = .ok (.aload_n 0, 1) := by decide +kernel
theorem dX2_addLevel_55 : decode cX2_addLevel 55 = .ok (.getfield 27, 3) := by decide +kernel
theorem dX2_addLevel_58 : decode cX2_addLevel 58 = .ok (.aload_n 0, 1) := by decide +kernel
theorem dX2_addLevel_59 : decode cX2_addLevel 59 = .ok (.getfield 17, 3) := by decide +kernel
theorem dX2_addLevel_62 : decode cX2_addLevel 62 = .ok (.aload_n 0, 1) := by decide +kernel
theorem dX2_addLevel_63 : decode cX2_addLevel 63 = .ok (.getfield 27, 3) := by decide +kernel
theorem dX2_addLevel_66 : decode cX2_addLevel 66 = .ok (.laload, 1) := by decide +kernel
theorem dX2_addLevel_67 : decode cX2_addLevel 67 = .ok (.lload_n 2, 1) := by decide +kernel
theorem dX2_addLevel_68 : decode cX2_addLevel 68 = .ok (.ldiv, 1) := by decide +kernel
theorem dX2_addLevel_69 : decode cX2_addLevel 69 = .ok (.lload 4, 2) := by decide +kernel
theorem dX2_addLevel_71 : decode cX2_addLevel 71 = .ok (.invokestatic 70, 3) := by decide +kernel
theorem dX2_addLevel_74 : decode cX2_addLevel 74 = .ok (.lastore, 1) := by decide +kernel
theorem dX2_addLevel_75 : decode cX2_addLevel 75 = .ok (.aload_n 0, 1) := by decide +kernel
theorem dX2_addLevel_76 : decode cX2_addLevel 76 = .ok (.getfield 17, 3) := by decide +kernel
theorem dX2_addLevel_79 : decode cX2_addLevel 79 = .ok (.aload_n 0, 1) := by decide +kernel
theorem dX2_addLevel_80 : decode cX2_addLevel 80 = .ok (.getfield 27, 3) := by decide +kernel
theorem dX2_addLevel_83 : decode cX2_addLevel 83 = .ok (.iconst 1, 1) := by decide +kernel
theorem dX2_addLevel_84 : decode cX2_addLevel 84 = .ok (.iadd, 1) := by decide +kernel
theorem dX2_addLevel_85 : decode cX2_addLevel 85 = .ok (.aload_n 0, 1) := by decide +kernel
theorem dX2_addLevel_86 : decode cX2_addLevel 86 = .ok (.getfield 17, 3) := by decide +kernel
theorem dX2_addLevel_89 : decode cX2_addLevel 89 = .ok (.aload_n 0, 1) := by decide +kernel
theorem dX2_addLevel_90 : decode cX2_addLevel 90 = .ok (.getfield 27, 3) := by decide +kernel
theorem dX2_addLevel_93 : decode cX2_addLevel 93 = .ok (.laload, 1) := by decide +kernel
theorem dX2_addLevel_94 : decode cX2_addLevel 94 = .ok (.lload 4, 2) := by decide +kernel
theorem dX2_addLevel_96 : decode cX2_addLevel 96 = .ok (.lmul, 1) := by decide +kernel
theorem dX2_addLevel_97 : decode cX2_addLevel 97 = .ok (.lastore, 1) := by decide +kernel
theorem dX2_addLevel_98 : decode cX2_addLevel 98 = .ok (.aload_n 0, 1) := by decide +kernel
theorem dX2_addLevel_99 : decode cX2_addLevel 99 = .ok (.dup, 1) := by decide +kernel
theorem dX2_addLevel_100 : decode cX2_addLevel 100 = .ok (.getfield 27, 3) := by decide +kernel
theorem dX2_addLevel_103 : decode cX2_addLevel 103 = .ok (.iconst 1, 1) := by decide +kernel
theorem dX2_addLevel_104 : decode cX2_addLevel 104 = .ok (.iadd, 1) := by decide +kernel
theorem dX2_addLevel_105 : decode cX2_addLevel 105 = .ok (.putfield 27, 3) := by decide +kernel
theorem dX2_addLevel_108 : decode cX2_addLevel 108 = .ok (.return_, 1) := by decide +kernel
theorem dX2_inverseOf_0 : decode cX2_inverseOf 0 = .ok (.lconst 1, 1) := by decide +kernel
theorem dX2_inverseOf_1 : decode cX2_inverseOf 1 = .ok (.lstore 4, 2) := by decide +kernel
theorem dX2_inverseOf_3 : decode cX2_inverseOf 3 = .ok (.lload 4, 2) := by decide +kernel
theorem dX2_inverseOf_5 : decode cX2_inverseOf 5 = .ok (.lload_n 2, 1) := by decide +kernel
theorem dX2_inverseOf_6 : decode cX2_inverseOf 6 = .ok (.lcmp, 1) := by decide +kernel
theorem dX2_inverseOf_7 : decode cX2_inverseOf 7 = .ok (.ifCond .ge 28, 3) := by decide +kernel
theorem dX2_inverseOf_10 : decode cX2_inverseOf 10 = .ok (.lload_n 0, 1) := by decide +kernel
theorem dX2_inverseOf_11 : decode cX2_inverseOf 11 = .ok (.lload 4, 2) := by decide +kernel
theorem dX2_inverseOf_13 : decode cX2_inverseOf 13 = .ok (.lmul, 1) := by decide +kernel
theorem dX2_inverseOf_14 : decode cX2_inverseOf 14 = .ok (.lload_n 2, 1) := by decide +kernel
theorem dX2_inverseOf_15 : decode cX2_inverseOf 15 = .ok (.invokestatic 73, 3) := by decide +kernel
theorem dX2_inverseOf_18 : decode cX2_inverseOf 18 = .ok (.lconst 1, 1) := by decide +kernel
theorem dX2_inverseOf_19 : decode cX2_inverseOf 19 = .ok (.lcmp, 1) := by decide +kernel
theorem dX2_inverseOf_20 : decode cX2_inverseOf 20 = .ok (.ifCond .ne 6, 3) := by decide +kernel
theorem dX2_inverseOf_23 : decode cX2_inverseOf 23 = .ok (.lload 4, 2) := by decide +kernel
theorem dX2_inverseOf_25 : decode cX2_inverseOf 25 = .ok (.lreturn, 1) := by decide +kernel
theorem dX2_inverseOf_26 : decode cX2_inverseOf 26 = .ok (.lload 4, 2) := by decide +kernel
theorem dX2_inverseOf_28 : decode cX2_inverseOf 28 = .ok (.lconst 1, 1) := by decide +kernel
theorem dX2_inverseOf_29 : decode cX2_inverseOf 29 = .ok (.ladd, 1) := by decide +kernel
theorem dX2_inverseOf_30 : decode cX2_inverseOf 30 = .ok (.lstore 4, 2) := by decide +kernel
theorem dX2_inverseOf_32 : decode cX2_inverseOf 32 = .ok (.goto (-29), 3) := by decide +kernel
theorem dX2_inverseOf_35 : decode cX2_inverseOf 35 = .ok (.lconst 0, 1) := by decide +kernel
theorem dX2_inverseOf_36 : decode cX2_inverseOf 36 = .ok (.lreturn, 1) := by decide +kernel
theorem dX2_meet_0 : decode cX2_meet 0 = .ok (.aload_n 0, 1) := by decide +kernel
theorem dX2_meet_1 : decode cX2_meet 1 = .ok (.getfield 11, 3) := by decide +kernel
theorem dX2_meet_4 : decode cX2_meet 4 = .ok (.iload_n 1, 1) := by decide +kernel
theorem dX2_meet_5 : decode cX2_meet 5 = .ok (.aaload, 1) := by decide +kernel
theorem dX2_meet_6 : decode cX2_meet 6 = .ok (.astore 5, 2) := by decide +kernel
theorem dX2_meet_8 : decode cX2_meet 8 = .ok (.aload 5, 2) := by decide +kernel
theorem dX2_meet_10 : decode cX2_meet 10 = .ok (.iload 4, 2) := by decide +kernel
theorem dX2_meet_12 : decode cX2_meet 12 = .ok (.invokevirtual 76, 3) := by decide +kernel
theorem dX2_meet_15 : decode cX2_meet 15 = .ok (.i2l, 1) := by decide +kernel
theorem dX2_meet_16 : decode cX2_meet 16 = .ok (.aload_n 0, 1) := by decide +kernel
theorem dX2_meet_17 : decode cX2_meet 17 = .ok (.getfield 31, 3) := by decide +kernel
theorem dX2_meet_20 : decode cX2_meet 20 = .ok (.lsub, 1) := by decide +kernel
theorem dX2_meet_21 : decode cX2_meet 21 = .ok (.lload_n 2, 1) := by decide +kernel
theorem dX2_meet_22 : decode cX2_meet 22 = .ok (.lsub, 1) := by decide +kernel
theorem dX2_meet_23 : decode cX2_meet 23 = .ok (.aload 5, 2) := by decide +kernel
theorem dX2_meet_25 : decode cX2_meet 25 = .ok (.invokevirtual 59, 3) := by decide +kernel
theorem dX2_meet_28 : decode cX2_meet 28 = .ok (.i2l, 1) := by decide +kernel
theorem dX2_meet_29 : decode cX2_meet 29 = .ok (.invokestatic 73, 3) := by decide +kernel
theorem dX2_meet_32 : decode cX2_meet 32 = .ok (.lstore 6, 2) := by decide +kernel
theorem dX2_meet_34 : decode cX2_meet 34 = .ok (.aload_n 0, 1) := by decide +kernel
theorem dX2_meet_35 : decode cX2_meet 35 = .ok (.getfield 21, 3) := by decide +kernel
theorem dX2_meet_38 : decode cX2_meet 38 = .ok (.iload_n 1, 1) := by decide +kernel
theorem dX2_meet_39 : decode cX2_meet 39 = .ok (.laload, 1) := by decide +kernel
theorem dX2_meet_40 : decode cX2_meet 40 = .ok (.lstore 8, 2) := by decide +kernel
theorem dX2_meet_42 : decode cX2_meet 42 = .ok (.lload 8, 2) := by decide +kernel
theorem dX2_meet_44 : decode cX2_meet 44 = .ok (.lconst 1, 1) := by decide +kernel
theorem dX2_meet_45 : decode cX2_meet 45 = .ok (.lcmp, 1) := by decide +kernel
theorem dX2_meet_46 : decode cX2_meet 46 = .ok (.ifCond .lt 13, 3) := by decide +kernel
theorem dX2_meet_49 : decode cX2_meet 49 = .ok (.lload 6, 2) := by decide +kernel
theorem dX2_meet_51 : decode cX2_meet 51 = .ok (.lload 8, 2) := by decide +kernel
theorem dX2_meet_53 : decode cX2_meet 53 = .ok (.lrem, 1) := by decide +kernel
theorem dX2_meet_54 : decode cX2_meet 54 = .ok (.lconst 0, 1) := by decide +kernel
theorem dX2_meet_55 : decode cX2_meet 55 = .ok (.lcmp, 1) := by decide +kernel
theorem dX2_meet_56 : decode cX2_meet 56 = .ok (.ifCond .eq 7, 3) := by decide +kernel
theorem dX2_meet_59 : decode cX2_meet 59 = .ok (.ldc2_w 49, 3) := by decide +kernel
theorem dX2_meet_62 : decode cX2_meet 62 = .ok (.lreturn, 1) := by decide +kernel
theorem dX2_meet_63 : decode cX2_meet 63 = .ok (.lload 6, 2) := by decide +kernel
theorem dX2_meet_65 : decode cX2_meet 65 = .ok (.lload 8, 2) := by decide +kernel
theorem dX2_meet_67 : decode cX2_meet 67 = .ok (.ldiv, 1) := by decide +kernel
theorem dX2_meet_68 : decode cX2_meet 68 = .ok (.aload_n 0, 1) := by decide +kernel
theorem dX2_meet_69 : decode cX2_meet 69 = .ok (.getfield 24, 3) := by decide +kernel
theorem dX2_meet_72 : decode cX2_meet 72 = .ok (.iload_n 1, 1) := by decide +kernel
theorem dX2_meet_73 : decode cX2_meet 73 = .ok (.laload, 1) := by decide +kernel
theorem dX2_meet_74 : decode cX2_meet 74 = .ok (.lmul, 1) := by decide +kernel
theorem dX2_meet_75 : decode cX2_meet 75 = .ok (.aload 5, 2) := by decide +kernel
theorem dX2_meet_77 : decode cX2_meet 77 = .ok (.invokevirtual 59, 3) := by decide +kernel
theorem dX2_meet_80 : decode cX2_meet 80 = .ok (.i2l, 1) := by decide +kernel
theorem dX2_meet_81 : decode cX2_meet 81 = .ok (.lload 8, 2) := by decide +kernel
theorem dX2_meet_83 : decode cX2_meet 83 = .ok (.ldiv, 1) := by decide +kernel
theorem dX2_meet_84 : decode cX2_meet 84 = .ok (.invokestatic 73, 3) := by decide +kernel
theorem dX2_meet_87 : decode cX2_meet 87 = .ok (.lstore 10, 2) := by decide +kernel
theorem dX2_meet_89 : decode cX2_meet 89 = .ok (.lload_n 2, 1) := by decide +kernel
theorem dX2_meet_90 : decode cX2_meet 90 = .ok (.lload 10, 2) := by decide +kernel
theorem dX2_meet_92 : decode cX2_meet 92 = .ok (.aload_n 0, 1) := by decide +kernel
theorem dX2_meet_93 : decode cX2_meet 93 = .ok (.getfield 17, 3) := by decide +kernel
theorem dX2_meet_96 : decode cX2_meet 96 = .ok (.iload_n 1, 1) := by decide +kernel
theorem dX2_meet_97 : decode cX2_meet 97 = .ok (.laload, 1) := by decide +kernel
theorem dX2_meet_98 : decode cX2_meet 98 = .ok (.lmul, 1) := by decide +kernel
theorem dX2_meet_99 : decode cX2_meet 99 = .ok (.ladd, 1) := by decide +kernel
theorem dX2_meet_100 : decode cX2_meet 100 = .ok (.lreturn, 1) := by decide +kernel
theorem dX2_search_0 : decode cX2_search 0 = .ok (.iload_n 1, 1) := by decide +kernel
theorem dX2_search_1 : decode cX2_search 1 = .ok (.aload_n 0, 1) := by decide +kernel
theorem dX2_search_2 : decode cX2_search 2 = .ok (.getfield 27, 3) := by decide +kernel
theorem dX2_search_5 : decode cX2_search 5 = .ok (.if_icmp .lt 9, 3) := by decide +kernel
theorem dX2_search_8 : decode cX2_search 8 = .ok (.aload_n 0, 1) := by decide +kernel
theorem dX2_search_9 : decode cX2_search 9 = .ok (.lload_n 2, 1) := by decide +kernel
theorem dX2_search_10 : decode cX2_search 10 = .ok (.putfield 35, 3) := by decide +kernel
theorem dX2_search_13 : decode cX2_search 13 = .ok (.return_, 1) := by decide +kernel
theorem dX2_search_14 : decode cX2_search 14 = .ok (.iconst 0, 1) := by decide +kernel
theorem dX2_search_15 : decode cX2_search 15 = .ok (.istore 4, 2) := by decide +kernel
theorem dX2_search_17 : decode cX2_search 17 = .ok (.iload 4, 2) := by decide +kernel
theorem dX2_search_19 : decode cX2_search 19 = .ok (.aload_n 0, 1) := by decide +kernel
theorem dX2_search_20 : decode cX2_search 20 = .ok (.getfield 11, 3) := by decide +kernel
theorem dX2_search_23 : decode cX2_search 23 = .ok (.iload_n 1, 1) := by decide +kernel
theorem dX2_search_24 : decode cX2_search 24 = .ok (.aaload, 1) := by decide +kernel
theorem dX2_search_25 : decode cX2_search 25 = .ok (.invokevirtual 80, 3) := by decide +kernel
theorem dX2_search_28 : decode cX2_search 28 = .ok (.if_icmp .ge 45, 3) := by decide +kernel
theorem dX2_search_31 : decode cX2_search 31 = .ok (.aload_n 0, 1) := by decide +kernel
theorem dX2_search_32 : decode cX2_search 32 = .ok (.iload_n 1, 1) := by decide +kernel
theorem dX2_search_33 : decode cX2_search 33 = .ok (.lload_n 2, 1) := by decide +kernel
theorem dX2_search_34 : decode cX2_search 34 = .ok (.iload 4, 2) := by decide +kernel
theorem dX2_search_36 : decode cX2_search 36 = .ok (.invokevirtual 83, 3) := by decide +kernel
theorem dX2_search_39 : decode cX2_search 39 = .ok (.lstore 5, 2) := by decide +kernel
theorem dX2_search_41 : decode cX2_search 41 = .ok (.lload 5, 2) := by decide +kernel
theorem dX2_search_43 : decode cX2_search 43 = .ok (.lconst 0, 1) := by decide +kernel
theorem dX2_search_44 : decode cX2_search 44 = .ok (.lcmp, 1) := by decide +kernel
theorem dX2_search_45 : decode cX2_search 45 = .ok (.ifCond .lt 22, 3) := by decide +kernel
theorem dX2_search_48 : decode cX2_search 48 = .ok (.lload 5, 2) := by decide +kernel
theorem dX2_search_50 : decode cX2_search 50 = .ok (.aload_n 0, 1) := by decide +kernel
theorem dX2_search_51 : decode cX2_search 51 = .ok (.getfield 35, 3) := by decide +kernel
theorem dX2_search_54 : decode cX2_search 54 = .ok (.lcmp, 1) := by decide +kernel
theorem dX2_search_55 : decode cX2_search 55 = .ok (.ifCond .ge 12, 3) := by decide +kernel
theorem dX2_search_58 : decode cX2_search 58 = .ok (.aload_n 0, 1) := by decide +kernel
theorem dX2_search_59 : decode cX2_search 59 = .ok (.iload_n 1, 1) := by decide +kernel
theorem dX2_search_60 : decode cX2_search 60 = .ok (.iconst 1, 1) := by decide +kernel
theorem dX2_search_61 : decode cX2_search 61 = .ok (.iadd, 1) := by decide +kernel
theorem dX2_search_62 : decode cX2_search 62 = .ok (.lload 5, 2) := by decide +kernel
theorem dX2_search_64 : decode cX2_search 64 = .ok (.invokestatic 45, 3) := by decide +kernel
theorem dX2_search_67 : decode cX2_search 67 = .ok (.iinc 4 1, 3) := by decide +kernel
theorem dX2_search_70 : decode cX2_search 70 = .ok (.goto (-53), 3) := by decide +kernel
theorem dX2_search_73 : decode cX2_search 73 = .ok (.return_, 1) := by decide +kernel
theorem dX2_countOf_0 : decode cX2_countOf 0 = .ok (.iload_n 1, 1) := by decide +kernel
theorem dX2_countOf_1 : decode cX2_countOf 1 = .ok (.aload_n 0, 1) := by decide +kernel
theorem dX2_countOf_2 : decode cX2_countOf 2 = .ok (.getfield 27, 3) := by decide +kernel
theorem dX2_countOf_5 : decode cX2_countOf 5 = .ok (.if_icmp .lt 21, 3) := by decide +kernel
theorem dX2_countOf_8 : decode cX2_countOf 8 = .ok (.lload 4, 2) := by decide +kernel
theorem dX2_countOf_10 : decode cX2_countOf 10 = .ok (.lload_n 2, 1) := by decide +kernel
theorem dX2_countOf_11 : decode cX2_countOf 11 = .ok (.lsub, 1) := by decide +kernel
theorem dX2_countOf_12 : decode cX2_countOf 12 = .ok (.aload_n 0, 1) := by decide +kernel
theorem dX2_countOf_13 : decode cX2_countOf 13 = .ok (.getfield 17, 3) := by decide +kernel
theorem dX2_countOf_16 : decode cX2_countOf 16 = .ok (.iload_n 1, 1) := by decide +kernel
theorem dX2_countOf_17 : decode cX2_countOf 17 = .ok (.laload, 1) := by decide +kernel
theorem dX2_countOf_18 : decode cX2_countOf 18 = .ok (.lconst 1, 1) := by decide +kernel
theorem dX2_countOf_19 : decode cX2_countOf 19 = .ok (.invokestatic 87, 3) := by decide +kernel
theorem dX2_countOf_22 : decode cX2_countOf 22 = .ok (.ldiv, 1) := by decide +kernel
theorem dX2_countOf_23 : decode cX2_countOf 23 = .ok (.lconst 1, 1) := by decide +kernel
theorem dX2_countOf_24 : decode cX2_countOf 24 = .ok (.ladd, 1) := by decide +kernel
theorem dX2_countOf_25 : decode cX2_countOf 25 = .ok (.lreturn, 1) := by decide +kernel
theorem dX2_countOf_26 : decode cX2_countOf 26 = .ok (.lconst 0, 1) := by decide +kernel
theorem dX2_countOf_27 : decode cX2_countOf 27 = .ok (.lstore 6, 2) := by decide +kernel
theorem dX2_countOf_29 : decode cX2_countOf 29 = .ok (.iconst 0, 1) := by decide +kernel
theorem dX2_countOf_30 : decode cX2_countOf 30 = .ok (.istore 8, 2) := by decide +kernel
theorem dX2_countOf_32 : decode cX2_countOf 32 = .ok (.iload 8, 2) := by decide +kernel
theorem dX2_countOf_34 : decode cX2_countOf 34 = .ok (.aload_n 0, 1) := by decide +kernel
theorem dX2_countOf_35 : decode cX2_countOf 35 = .ok (.getfield 11, 3) := by decide +kernel
theorem dX2_countOf_38 : decode cX2_countOf 38 = .ok (.iload_n 1, 1) := by decide +kernel
theorem dX2_countOf_39 : decode cX2_countOf 39 = .ok (.aaload, 1) := by decide +kernel
theorem dX2_countOf_40 : decode cX2_countOf 40 = .ok (.invokevirtual 80, 3) := by decide +kernel
theorem dX2_countOf_43 : decode cX2_countOf 43 = .ok (.if_icmp .ge 50, 3) := by decide +kernel
theorem dX2_countOf_46 : decode cX2_countOf 46 = .ok (.aload_n 0, 1) := by decide +kernel
theorem dX2_countOf_47 : decode cX2_countOf 47 = .ok (.iload_n 1, 1) := by decide +kernel
theorem dX2_countOf_48 : decode cX2_countOf 48 = .ok (.lload_n 2, 1) := by decide +kernel
theorem dX2_countOf_49 : decode cX2_countOf 49 = .ok (.iload 8, 2) := by decide +kernel
theorem dX2_countOf_51 : decode cX2_countOf 51 = .ok (.invokevirtual 83, 3) := by decide +kernel
theorem dX2_countOf_54 : decode cX2_countOf 54 = .ok (.lstore 9, 2) := by decide +kernel
theorem dX2_countOf_56 : decode cX2_countOf 56 = .ok (.lload 9, 2) := by decide +kernel
theorem dX2_countOf_58 : decode cX2_countOf 58 = .ok (.lconst 0, 1) := by decide +kernel
theorem dX2_countOf_59 : decode cX2_countOf 59 = .ok (.lcmp, 1) := by decide +kernel
theorem dX2_countOf_60 : decode cX2_countOf 60 = .ok (.ifCond .lt 27, 3) := by decide +kernel
theorem dX2_countOf_63 : decode cX2_countOf 63 = .ok (.lload 9, 2) := by decide +kernel
theorem dX2_countOf_65 : decode cX2_countOf 65 = .ok (.lload 4, 2) := by decide +kernel
theorem dX2_countOf_67 : decode cX2_countOf 67 = .ok (.lcmp, 1) := by decide +kernel
theorem dX2_countOf_68 : decode cX2_countOf 68 = .ok (.ifCond .gt 19, 3) := by decide +kernel
theorem dX2_countOf_71 : decode cX2_countOf 71 = .ok (.lload 6, 2) := by decide +kernel
theorem dX2_countOf_73 : decode cX2_countOf 73 = .ok (.aload_n 0, 1) := by decide +kernel
theorem dX2_countOf_74 : decode cX2_countOf 74 = .ok (.iload_n 1, 1) := by decide +kernel
theorem dX2_countOf_75 : decode cX2_countOf 75 = .ok (.iconst 1, 1) := by decide +kernel
theorem dX2_countOf_76 : decode cX2_countOf 76 = .ok (.iadd, 1) := by decide +kernel
theorem dX2_countOf_77 : decode cX2_countOf 77 = .ok (.lload 9, 2) := by decide +kernel
theorem dX2_countOf_79 : decode cX2_countOf 79 = .ok (.lload 4, 2) := by decide +kernel
theorem dX2_countOf_81 : decode cX2_countOf 81 = .ok (.invokestatic 51, 3) := by decide +kernel
theorem dX2_countOf_84 : decode cX2_countOf 84 = .ok (.ladd, 1) := by decide +kernel
theorem dX2_countOf_85 : decode cX2_countOf 85 = .ok (.lstore 6, 2) := by decide +kernel
theorem dX2_countOf_87 : decode cX2_countOf 87 = .ok (.iinc 8 1, 3) := by decide +kernel
theorem dX2_countOf_90 : decode cX2_countOf 90 = .ok (.goto (-58), 3) := by decide +kernel
theorem dX2_countOf_93 : decode cX2_countOf 93 = .ok (.lload 6, 2) := by decide +kernel
theorem dX2_countOf_95 : decode cX2_countOf 95 = .ok (.lreturn, 1) := by decide +kernel
theorem dX3_init_0 : decode cX3_init 0 = .ok (.aload_n 0, 1) := by decide +kernel
theorem dX3_init_1 : decode cX3_init 1 = .ok (.invokespecial 3, 3) := by decide +kernel
theorem dX3_init_4 : decode cX3_init 4 = .ok (.aload_n 0, 1) := by decide +kernel
theorem dX3_init_5 : decode cX3_init 5 = .ok (.iconst 0, 1) := by decide +kernel
theorem dX3_init_6 : decode cX3_init 6 = .ok (.putfield 11, 3) := by decide +kernel
theorem dX3_init_9 : decode cX3_init 9 = .ok (.aload_n 0, 1) := by decide +kernel
theorem dX3_init_10 : decode cX3_init 10 = .ok (.iconst 0, 1) := by decide +kernel
theorem dX3_init_11 : decode cX3_init 11 = .ok (.putfield 15, 3) := by decide +kernel
theorem dX3_init_14 : decode cX3_init 14 = .ok (.aload_n 0, 1) := by decide +kernel
theorem dX3_init_15 : decode cX3_init 15 = .ok (.iconst 0, 1) := by decide +kernel
theorem dX3_init_16 : decode cX3_init 16 = .ok (.putfield 18, 3) := by decide +kernel
theorem dX3_init_19 : decode cX3_init 19 = .ok (.aload_n 0, 1) := by decide +kernel
theorem dX3_init_20 : decode cX3_init 20 = .ok (.iconst 0, 1) := by decide +kernel
theorem dX3_init_21 : decode cX3_init 21 = .ok (.putfield 21, 3) := by decide +kernel
theorem dX3_init_24 : decode cX3_init 24 = .ok (.aload_n 0, 1) := by decide +kernel
theorem dX3_init_25 : decode cX3_init 25 = .ok (.iconst 0, 1) := by decide +kernel
theorem dX3_init_26 : decode cX3_init 26 = .ok (.putfield 25, 3) := by decide +kernel
theorem dX3_init_29 : decode cX3_init 29 = .ok (.aload_n 0, 1) := by decide +kernel
theorem dX3_init_30 : decode cX3_init 30 = .ok (.iconst 0, 1) := by decide +kernel
theorem dX3_init_31 : decode cX3_init 31 = .ok (.putfield 28, 3) := by decide +kernel
theorem dX3_init_34 : decode cX3_init 34 = .ok (.aload_n 0, 1) := by decide +kernel
theorem dX3_init_35 : decode cX3_init 35 = .ok (.iconst 0, 1) := by decide +kernel
theorem dX3_init_36 : decode cX3_init 36 = .ok (.putfield 31, 3) := by decide +kernel
theorem dX3_init_39 : decode cX3_init 39 = .ok (.aload_n 0, 1) := by decide +kernel
theorem dX3_init_40 : decode cX3_init 40 = .ok (.aload_n 1, 1) := by decide +kernel
theorem dX3_init_41 : decode cX3_init 41 = .ok (.putfield 34, 3) := by decide +kernel
theorem dX3_init_44 : decode cX3_init 44 = .ok (.aload_n 0, 1) := by decide +kernel
theorem dX3_init_45 : decode cX3_init 45 = .ok (.aload_n 2, 1) := by decide +kernel
theorem dX3_init_46 : decode cX3_init 46 = .ok (.putfield 38, 3) := by decide +kernel
theorem dX3_init_49 : decode cX3_init 49 = .ok (.return_, 1) := by decide +kernel
theorem dX3_readLines_0 : decode cX3_readLines 0 = .ok (.aload_n 0, 1) := by decide +kernel
theorem dX3_readLines_1 : decode cX3_readLines 1 = .ok (.getfield 38, 3) := by decide +kernel
theorem dX3_readLines_4 : decode cX3_readLines 4 = .ok (.invokevirtual 42, 3) := by decide +kernel
theorem dX3_readLines_7 : decode cX3_readLines 7 = .ok (.iconst 0, 1) := by decide +kernel
theorem dX3_readLines_8 : decode cX3_readLines 8 = .ok (.istore_n 1, 1) := by decide +kernel
theorem dX3_readLines_9 : decode cX3_readLines 9 = .ok (.aload_n 0, 1) := by decide +kernel
theorem dX3_readLines_10 : decode cX3_readLines 10 = .ok (.invokevirtual 47, 3) := by decide +kernel
theorem dX3_readLines_13 : decode cX3_readLines 13 = .ok (.aload_n 0, 1) := by decide +kernel
theorem dX3_readLines_14 : decode cX3_readLines 14 = .ok (.getfield 28, 3) := by decide +kernel
theorem dX3_readLines_17 : decode cX3_readLines 17 = .ok (.ifCond .ne 31, 3) := by decide +kernel
theorem dX3_readLines_20 : decode cX3_readLines 20 = .ok (.aload_n 0, 1) := by decide +kernel
theorem dX3_readLines_21 : decode cX3_readLines 21 = .ok (.getfield 11, 3) := by decide +kernel
theorem dX3_readLines_24 : decode cX3_readLines 24 = .ok (.ifCond .eq 24, 3) := by decide +kernel
theorem dX3_readLines_27 : decode cX3_readLines 27 = .ok (.iload_n 1, 1) := by decide +kernel
theorem dX3_readLines_28 : decode cX3_readLines 28 = .ok (.sipush 400, 3) := by decide +kernel
theorem dX3_readLines_31 : decode cX3_readLines 31 = .ok (.if_icmp .ge 17, 3) := by decide +kernel
theorem dX3_readLines_34 : decode cX3_readLines 34 = .ok (.aload_n 0, 1) := by decide +kernel
theorem dX3_readLines_35 : decode cX3_readLines 35 = .ok (.invokevirtual 50, 3) := by decide +kernel
theorem dX3_readLines_38 : decode cX3_readLines 38 = .ok (.aload_n 0, 1) := by decide +kernel
theorem dX3_readLines_39 : decode cX3_readLines 39 = .ok (.invokevirtual 47, 3) := by decide +kernel
theorem dX3_readLines_42 : decode cX3_readLines 42 = .ok (.iinc 1 1, 3) := by decide +kernel
theorem dX3_readLines_45 : decode cX3_readLines 45 = .ok (.goto (-32), 3) := by decide +kernel
theorem dX3_readLines_48 : decode cX3_readLines 48 = .ok (.iconst 0, 1) := by decide +kernel
theorem dX3_readLines_49 : decode cX3_readLines 49 = .ok (.istore_n 2, 1) := by decide +kernel
theorem dX3_readLines_50 : decode cX3_readLines 50 = .ok (.iload_n 2, 1) := by decide +kernel
theorem dX3_readLines_51 : decode cX3_readLines 51 = .ok (.aload_n 0, 1) := by decide +kernel
theorem dX3_readLines_52 : decode cX3_readLines 52 = .ok (.getfield 38, 3) := by decide +kernel
theorem dX3_readLines_55 : decode cX3_readLines 55 = .ok (.getfield 53, 3) := by decide +kernel
theorem dX3_readLines_58 : decode cX3_readLines 58 = .ok (.if_icmp .ge 44, 3) := by decide +kernel
theorem dX3_readLines_61 : decode cX3_readLines 61 = .ok (.aload_n 0, 1) := by decide +kernel
theorem dX3_readLines_62 : decode cX3_readLines 62 = .ok (.getfield 38, 3) := by decide +kernel
theorem dX3_readLines_65 : decode cX3_readLines 65 = .ok (.getfield 56, 3) := by decide +kernel
theorem dX3_readLines_68 : decode cX3_readLines 68 = .ok (.iload_n 2, 1) := by decide +kernel
theorem dX3_readLines_69 : decode cX3_readLines 69 = .ok (.aaload, 1) := by decide +kernel
theorem dX3_readLines_70 : decode cX3_readLines 70 = .ok (.getfield 60, 3) := by decide +kernel
theorem dX3_readLines_73 : decode cX3_readLines 73 = .ok (.aload_n 0, 1) := by decide +kernel
theorem dX3_readLines_74 : decode cX3_readLines 74 = .ok (.getfield 38, 3) := by decide +kernel
theorem dX3_readLines_77 : decode cX3_readLines 77 = .ok (.getfield 65, 3) := by decide +kernel
theorem dX3_readLines_80 : decode cX3_readLines 80 = .ok (.if_icmp .lt 16, 3) := by decide +kernel
theorem dX3_readLines_83 : decode cX3_readLines 83 = .ok (.aload_n 0, 1) := by decide +kernel
theorem dX3_readLines_84 : decode cX3_readLines 84 = .ok (.bipush 6, 2) := by decide +kernel
theorem dX3_readLines_86 : decode cX3_readLines 86 = .ok (.aload_n 0, 1) := by decide +kernel
theorem dX3_readLines_87 : decode cX3_readLines 87 = .ok (.getfield 34, 3) := by decide +kernel
theorem dX3_readLines_90 : decode cX3_readLines 90 = .ok (.getfield 68, 3) := by decide +kernel
theorem dX3_readLines_93 : decode cX3_readLines 93 = .ok (.invokevirtual 73, 3) := by decide +kernel
theorem dX3_readLines_96 : decode cX3_readLines 96 = .ok (.iinc 2 1, 3) := by decide +kernel
theorem dX3_readLines_99 : decode cX3_readLines 99 = .ok (.goto (-49), 3) := by decide +kernel
theorem dX3_readLines_102 : decode cX3_readLines 102 = .ok (.iload_n 1, 1) := by decide +kernel
theorem dX3_readLines_103 : decode cX3_readLines 103 = .ok (.ireturn, 1) := by decide +kernel
theorem dX3_readLine_0 : decode cX3_readLine 0 = .ok (.aload_n 0, 1) := by decide +kernel
theorem dX3_readLine_1 : decode cX3_readLine 1 = .ok (.ldc 77, 2) := by decide +kernel
theorem dX3_readLine_3 : decode cX3_readLine 3 = .ok (.invokevirtual 79, 3) := by decide +kernel
theorem dX3_readLine_6 : decode cX3_readLine 6 = .ok (.ifCond .eq 10, 3) := by decide +kernel
theorem dX3_readLine_9 : decode cX3_readLine 9 = .ok (.aload_n 0, 1) := by decide +kernel
theorem dX3_readLine_10 : decode cX3_readLine 10 = .ok (.invokevirtual 83, 3) := by decide +kernel
theorem dX3_readLine_13 : decode cX3_readLine 13 = .ok (.goto 60, 3) := by decide +kernel
theorem dX3_readLine_16 : decode cX3_readLine 16 = .ok (.aload_n 0, 1) := by decide +kernel
theorem dX3_readLine_17 : decode cX3_readLine 17 = .ok (.ldc 86, 2) := by decide +kernel
theorem dX3_readLine_19 : decode cX3_readLine 19 = .ok (.invokevirtual 79, 3) := by decide +kernel
theorem dX3_readLine_22 : decode cX3_readLine 22 = .ok (.ifCond .eq 10, 3) := by decide +kernel
theorem dX3_readLine_25 : decode cX3_readLine 25 = .ok (.aload_n 0, 1) := by decide +kernel
theorem dX3_readLine_26 : decode cX3_readLine 26 = .ok (.invokevirtual 88, 3) := by decide +kernel
theorem dX3_readLine_29 : decode cX3_readLine 29 = .ok (.goto 44, 3) := by decide +kernel
theorem dX3_readLine_32 : decode cX3_readLine 32 = .ok (.aload_n 0, 1) := by decide +kernel
theorem dX3_readLine_33 : decode cX3_readLine 33 = .ok (.ldc 91, 2) := by decide +kernel
theorem dX3_readLine_35 : decode cX3_readLine 35 = .ok (.invokevirtual 79, 3) := by decide +kernel
theorem dX3_readLine_38 : decode cX3_readLine 38 = .ok (.ifCond .eq 10, 3) := by decide +kernel
theorem dX3_readLine_41 : decode cX3_readLine 41 = .ok (.aload_n 0, 1) := by decide +kernel
theorem dX3_readLine_42 : decode cX3_readLine 42 = .ok (.invokevirtual 93, 3) := by decide +kernel
theorem dX3_readLine_45 : decode cX3_readLine 45 = .ok (.goto 28, 3) := by decide +kernel
theorem dX3_readLine_48 : decode cX3_readLine 48 = .ok (.aload_n 0, 1) := by decide +kernel
theorem dX3_readLine_49 : decode cX3_readLine 49 = .ok (.ldc 96, 2) := by decide +kernel
theorem dX3_readLine_51 : decode cX3_readLine 51 = .ok (.invokevirtual 79, 3) := by decide +kernel
theorem dX3_readLine_54 : decode cX3_readLine 54 = .ok (.ifCond .eq 10, 3) := by decide +kernel
theorem dX3_readLine_57 : decode cX3_readLine 57 = .ok (.aload_n 0, 1) := by decide +kernel
theorem dX3_readLine_58 : decode cX3_readLine 58 = .ok (.invokevirtual 98, 3) := by decide +kernel
theorem dX3_readLine_61 : decode cX3_readLine 61 = .ok (.goto 12, 3) := by decide +kernel
theorem dX3_readLine_64 : decode cX3_readLine 64 = .ok (.aload_n 0, 1) := by decide +kernel
theorem dX3_readLine_65 : decode cX3_readLine 65 = .ok (.iconst 2, 1) := by decide +kernel
theorem dX3_readLine_66 : decode cX3_readLine 66 = .ok (.aload_n 0, 1) := by decide +kernel
theorem dX3_readLine_67 : decode cX3_readLine 67 = .ok (.getfield 15, 3) := by decide +kernel
theorem dX3_readLine_70 : decode cX3_readLine 70 = .ok (.invokevirtual 73, 3) := by decide +kernel
theorem dX3_readLine_73 : decode cX3_readLine 73 = .ok (.return_, 1) := by decide +kernel
theorem dX3_readFigure_0 : decode cX3_readFigure 0 = .ok (.aload_n 0, 1) := by decide +kernel
theorem dX3_readFigure_1 : decode cX3_readFigure 1 = .ok (.aload_n 0, 1) := by decide +kernel
theorem dX3_readFigure_2 : decode cX3_readFigure 2 = .ok (.getfield 38, 3) := by decide +kernel
theorem dX3_readFigure_5 : decode cX3_readFigure 5 = .ok (.getfield 65, 3) := by decide +kernel
theorem dX3_readFigure_8 : decode cX3_readFigure 8 = .ok (.bipush 6, 2) := by decide +kernel
theorem dX3_readFigure_10 : decode cX3_readFigure 10 = .ok (.if_icmp .ge 7, 3) := by decide +kernel
theorem dX3_readFigure_13 : decode cX3_readFigure 13 = .ok (.iconst 1, 1) := by decide +kernel
theorem dX3_readFigure_14 : decode cX3_readFigure 14 = .ok (.goto 4, 3) := by decide +kernel
theorem dX3_readFigure_17 : decode cX3_readFigure 17 = .ok (.iconst 0, 1) := by decide +kernel
theorem dX3_readFigure_18 : decode cX3_readFigure 18 = .ok (.iconst 5, 1) := by decide +kernel
theorem dX3_readFigure_19 : decode cX3_readFigure 19 = .ok (.invokevirtual 101, 3) := by decide +kernel
theorem dX3_readFigure_22 : decode cX3_readFigure 22 = .ok (.aload_n 0, 1) := by decide +kernel
theorem dX3_readFigure_23 : decode cX3_readFigure 23 = .ok (.invokevirtual 47, 3) := by decide +kernel
theorem dX3_readFigure_26 : decode cX3_readFigure 26 = .ok (.aload_n 0, 1) := by decide +kernel
theorem dX3_readFigure_27 : decode cX3_readFigure 27 = .ok (.ldc 105, 2) := by decide +kernel
theorem dX3_readFigure_29 : decode cX3_readFigure 29 = .ok (.invokevirtual 79, 3) := by decide +kernel
theorem dX3_readFigure_32 : decode cX3_readFigure 32 = .ok (.istore_n 1, 1) := by decide +kernel
theorem dX3_readFigure_33 : decode cX3_readFigure 33 = .ok (.iload_n 1, 1) := by decide +kernel
theorem dX3_readFigure_34 : decode cX3_readFigure 34 = .ok (.ifCond .ne 12, 3) := by decide +kernel
theorem dX3_readFigure_37 : decode cX3_readFigure 37 = .ok (.aload_n 0, 1) := by decide +kernel
theorem dX3_readFigure_38 : decode cX3_readFigure 38 = .ok (.ldc 107, 2) := by decide +kernel
theorem dX3_readFigure_40 : decode cX3_readFigure 40 = .ok (.invokevirtual 79, 3) := by decide +kernel
theorem dX3_readFigure_43 : decode cX3_readFigure 43 = .ok (.ifCond .eq 7, 3) := by decide +kernel
theorem dX3_readFigure_46 : decode cX3_readFigure 46 = .ok (.iconst 1, 1) := by decide +kernel
theorem dX3_readFigure_47 : decode cX3_readFigure 47 = .ok (.goto 4, 3) := by decide +kernel
theorem dX3_readFigure_50 : decode cX3_readFigure 50 = .ok (.iconst 0, 1) := by decide +kernel
theorem dX3_readFigure_51 : decode cX3_readFigure 51 = .ok (.istore_n 2, 1) := by decide +kernel
theorem dX3_readFigure_52 : decode cX3_readFigure 52 = .ok (.iload_n 1, 1) := by decide +kernel
theorem dX3_readFigure_53 : decode cX3_readFigure 53 = .ok (.ifCond .ne 12, 3) := by decide +kernel
theorem dX3_readFigure_56 : decode cX3_readFigure 56 = .ok (.aload_n 0, 1) := by decide +kernel
theorem dX3_readFigure_57 : decode cX3_readFigure 57 = .ok (.ldc 109, 2) := by decide +kernel
theorem dX3_readFigure_59 : decode cX3_readFigure 59 = .ok (.invokevirtual 79, 3) := by decide +kernel
theorem dX3_readFigure_62 : decode cX3_readFigure 62 = .ok (.ifCond .eq 7, 3) := by decide +kernel
theorem dX3_readFigure_65 : decode cX3_readFigure 65 = .ok (.iconst 1, 1) := by decide +kernel
theorem dX3_readFigure_66 : decode cX3_readFigure 66 = .ok (.goto 4, 3) := by decide +kernel
theorem dX3_readFigure_69 : decode cX3_readFigure 69 = .ok (.iconst 0, 1) := by decide +kernel
theorem dX3_readFigure_70 : decode cX3_readFigure 70 = .ok (.istore_n 3, 1) := by decide +kernel
theorem dX3_readFigure_71 : decode cX3_readFigure 71 = .ok (.aload_n 0, 1) := by decide +kernel
theorem dX3_readFigure_72 : decode cX3_readFigure 72 = .ok (.iload_n 2, 1) := by decide +kernel
theorem dX3_readFigure_73 : decode cX3_readFigure 73 = .ok (.ifCond .ne 16, 3) := by decide +kernel
theorem dX3_readFigure_76 : decode cX3_readFigure 76 = .ok (.iload_n 3, 1) := by decide +kernel
theorem dX3_readFigure_77 : decode cX3_readFigure 77 = .ok (.ifCond .ne 12, 3) := by decide +kernel
theorem dX3_readFigure_80 : decode cX3_readFigure 80 = .ok (.aload_n 0, 1) := by decide +kernel
theorem dX3_readFigure_81 : decode cX3_readFigure 81 = .ok (.ldc 111, 2) := by decide +kernel
theorem dX3_readFigure_83 : decode cX3_readFigure 83 = .ok (.invokevirtual 79, 3) := by decide +kernel
theorem dX3_readFigure_86 : decode cX3_readFigure 86 = .ok (.ifCond .eq 7, 3) := by decide +kernel
theorem dX3_readFigure_89 : decode cX3_readFigure 89 = .ok (.iconst 1, 1) := by decide +kernel
theorem dX3_readFigure_90 : decode cX3_readFigure 90 = .ok (.goto 4, 3) := by decide +kernel
theorem dX3_readFigure_93 : decode cX3_readFigure 93 = .ok (.iconst 0, 1) := by decide +kernel
theorem dX3_readFigure_94 : decode cX3_readFigure 94 = .ok (.iconst 2, 1) := by decide +kernel
theorem dX3_readFigure_95 : decode cX3_readFigure 95 = .ok (.invokevirtual 101, 3) := by decide +kernel
theorem dX3_readFigure_98 : decode cX3_readFigure 98 = .ok (.iload_n 2, 1) := by decide +kernel
theorem dX3_readFigure_99 : decode cX3_readFigure 99 = .ok (.ifCond .eq 12, 3) := by decide +kernel
theorem dX3_readFigure_102 : decode cX3_readFigure 102 = .ok (.aload_n 0, 1) := by decide +kernel
theorem dX3_readFigure_103 : decode cX3_readFigure 103 = .ok (.iconst 1, 1) := by decide +kernel
theorem dX3_readFigure_104 : decode cX3_readFigure 104 = .ok (.iconst 3, 1) := by decide +kernel
theorem dX3_readFigure_105 : decode cX3_readFigure 105 = .ok (.invokevirtual 113, 3) := by decide +kernel
theorem dX3_readFigure_108 : decode cX3_readFigure 108 = .ok (.goto 4, 3) := by decide +kernel
theorem dX3_readFigure_111 : decode cX3_readFigure 111 = .ok (.iconst 0, 1) := by decide +kernel
theorem dX3_readFigure_112 : decode cX3_readFigure 112 = .ok (.istore 4, 2) := by decide +kernel
theorem dX3_readFigure_114 : decode cX3_readFigure 114 = .ok (.iload_n 3, 1) := by decide +kernel
theorem dX3_readFigure_115 : decode cX3_readFigure 115 = .ok (.ifCond .eq 13, 3) := by decide +kernel
theorem dX3_readFigure_118 : decode cX3_readFigure 118 = .ok (.aload_n 0, 1) := by decide +kernel
theorem dX3_readFigure_119 : decode cX3_readFigure 119 = .ok (.iconst 1, 1) := by decide +kernel
theorem dX3_readFigure_120 : decode cX3_readFigure 120 = .ok (.bipush 59, 2) := by decide +kernel
theorem dX3_readFigure_122 : decode cX3_readFigure 122 = .ok (.invokevirtual 113, 3) := by decide +kernel
theorem dX3_readFigure_125 : decode cX3_readFigure 125 = .ok (.goto 4, 3) := by decide +kernel
theorem dX3_readFigure_128 : decode cX3_readFigure 128 = .ok (.iconst 0, 1) := by decide +kernel
theorem dX3_readFigure_129 : decode cX3_readFigure 129 = .ok (.istore 5, 2) := by decide +kernel
theorem dX3_readFigure_131 : decode cX3_readFigure 131 = .ok (.aload_n 0, 1) := by decide +kernel
theorem dX3_readFigure_132 : decode cX3_readFigure 132 = .ok (.iconst 2, 1) := by decide +kernel
theorem dX3_readFigure_133 : decode cX3_readFigure 133 = .ok (.bipush 60, 2) := by decide +kernel
theorem dX3_readFigure_135 : decode cX3_readFigure 135 = .ok (.invokevirtual 113, 3) := by decide +kernel
theorem dX3_readFigure_138 : decode cX3_readFigure 138 = .ok (.istore 6, 2) := by decide +kernel
theorem dX3_readFigure_140 : decode cX3_readFigure 140 = .ok (.aload_n 0, 1) := by decide +kernel
theorem dX3_readFigure_141 : decode cX3_readFigure 141 = .ok (.iload 6, 2) := by decide +kernel
theorem dX3_readFigure_143 : decode cX3_readFigure 143 = .ok (.iload 5, 2) := by decide +kernel
theorem dX3_readFigure_145 : decode cX3_readFigure 145 = .ok (.if_icmp .le 7, 3) := by decide +kernel
theorem dX3_readFigure_148 : decode cX3_readFigure 148 = .ok (.iconst 1, 1) := by decide +kernel
theorem dX3_readFigure_149 : decode cX3_readFigure 149 = .ok (.goto 4, 3) := by decide +kernel
theorem dX3_readFigure_152 : decode cX3_readFigure 152 = .ok (.iconst 0, 1) := by decide +kernel
theorem dX3_readFigure_153 : decode cX3_readFigure 153 = .ok (.iconst 4, 1) := by decide +kernel
theorem dX3_readFigure_154 : decode cX3_readFigure 154 = .ok (.invokevirtual 101, 3) := by decide +kernel
theorem dX3_readFigure_157 : decode cX3_readFigure 157 = .ok (.aload_n 0, 1) := by decide +kernel
theorem dX3_readFigure_158 : decode cX3_readFigure 158 = .ok (.iconst 0, 1) := by decide +kernel
theorem dX3_readFigure_159 : decode cX3_readFigure 159 = .ok (.bipush 59, 2) := by decide +kernel
theorem dX3_readFigure_161 : decode cX3_readFigure 161 = .ok (.invokevirtual 113, 3) := by decide +kernel
theorem dX3_readFigure_164 : decode cX3_readFigure 164 = .ok (.istore 7, 2) := by decide +kernel
theorem dX3_readFigure_166 : decode cX3_readFigure 166 = .ok (.aload_n 0, 1) := by decide +kernel
theorem dX3_readFigure_167 : decode cX3_readFigure 167 = .ok (.iload 7, 2) := by decide +kernel
theorem dX3_readFigure_169 : decode cX3_readFigure 169 = .ok (.iload 6, 2) := by decide +kernel
theorem dX3_readFigure_171 : decode cX3_readFigure 171 = .ok (.if_icmp .ge 7, 3) := by decide +kernel
theorem dX3_readFigure_174 : decode cX3_readFigure 174 = .ok (.iconst 1, 1) := by decide +kernel
theorem dX3_readFigure_175 : decode cX3_readFigure 175 = .ok (.goto 4, 3) := by decide +kernel
theorem dX3_readFigure_178 : decode cX3_readFigure 178 = .ok (.iconst 0, 1) := by decide +kernel
theorem dX3_readFigure_179 : decode cX3_readFigure 179 = .ok (.iconst 4, 1) := by decide +kernel
theorem dX3_readFigure_180 : decode cX3_readFigure 180 = .ok (.invokevirtual 101, 3) := by decide +kernel
theorem dX3_readFigure_183 : decode cX3_readFigure 183 = .ok (.aload_n 0, 1) := by decide +kernel
theorem dX3_readFigure_184 : decode cX3_readFigure 184 = .ok (.iconst 0, 1) := by decide +kernel
theorem dX3_readFigure_185 : decode cX3_readFigure 185 = .ok (.bipush 8, 2) := by decide +kernel
theorem dX3_readFigure_187 : decode cX3_readFigure 187 = .ok (.invokevirtual 113, 3) := by decide +kernel
theorem dX3_readFigure_190 : decode cX3_readFigure 190 = .ok (.istore 8, 2) := by decide +kernel
theorem dX3_readFigure_192 : decode cX3_readFigure 192 = .ok (.aload_n 0, 1) := by decide +kernel
theorem dX3_readFigure_193 : decode cX3_readFigure 193 = .ok (.invokevirtual 117, 3) := by decide +kernel
theorem dX3_readFigure_196 : decode cX3_readFigure 196 = .ok (.aload_n 0, 1) := by decide +kernel
theorem dX3_readFigure_197 : decode cX3_readFigure 197 = .ok (.getfield 28, 3) := by decide +kernel
theorem dX3_readFigure_200 : decode cX3_readFigure 200 = .ok (.ifCond .ne 68, 3) := by decide +kernel
theorem dX3_readFigure_203 : decode cX3_readFigure 203 = .ok (.aload_n 0, 1) := by decide +kernel
theorem dX3_readFigure_204 : decode cX3_readFigure 204 = .ok (.getfield 38, 3) := by decide +kernel
theorem dX3_readFigure_207 : decode cX3_readFigure 207 = .ok (.getfield 120, 3) := by decide +kernel
theorem dX3_readFigure_210 : decode cX3_readFigure 210 = .ok (.aload_n 0, 1) := by decide +kernel
theorem dX3_readFigure_211 : decode cX3_readFigure 211 = .ok (.getfield 38, 3) := by decide +kernel
theorem dX3_readFigure_214 : decode cX3_readFigure 214 = .ok (.getfield 65, 3) := by decide +kernel
theorem dX3_readFigure_217 : decode cX3_readFigure 217 = .ok (.aaload, 1) := by decide +kernel
theorem dX3_readFigure_218 : decode cX3_readFigure 218 = .ok (.astore 9, 2) := by decide +kernel
theorem dX3_readFigure_220 : decode cX3_readFigure 220 = .ok (.aload 9, 2) := by decide +kernel
theorem dX3_readFigure_222 : decode cX3_readFigure 222 = .ok (.iload 4, 2) := by decide +kernel
theorem dX3_readFigure_224 : decode cX3_readFigure 224 = .ok (.putfield 124, 3) := by decide +kernel
theorem dX3_readFigure_227 : decode cX3_readFigure 227 = .ok (.aload 9, 2) := by decide +kernel
theorem dX3_readFigure_229 : decode cX3_readFigure 229 = .ok (.iload 5, 2) := by decide +kernel
theorem dX3_readFigure_231 : decode cX3_readFigure 231 = .ok (.putfield 129, 3) := by decide +kernel
theorem dX3_readFigure_234 : decode cX3_readFigure 234 = .ok (.aload 9, 2) := by decide +kernel
theorem dX3_readFigure_236 : decode cX3_readFigure 236 = .ok (.iload 6, 2) := by decide +kernel
theorem dX3_readFigure_238 : decode cX3_readFigure 238 = .ok (.putfield 132, 3) := by decide +kernel
theorem dX3_readFigure_241 : decode cX3_readFigure 241 = .ok (.aload 9, 2) := by decide +kernel
theorem dX3_readFigure_243 : decode cX3_readFigure 243 = .ok (.iload 7, 2) := by decide +kernel
theorem dX3_readFigure_245 : decode cX3_readFigure 245 = .ok (.putfield 135, 3) := by decide +kernel
theorem dX3_readFigure_248 : decode cX3_readFigure 248 = .ok (.aload 9, 2) := by decide +kernel
theorem dX3_readFigure_250 : decode cX3_readFigure 250 = .ok (.iload 8, 2) := by decide +kernel
theorem dX3_readFigure_252 : decode cX3_readFigure 252 = .ok (.putfield 138, 3) := by decide +kernel
theorem dX3_readFigure_255 : decode cX3_readFigure 255 = .ok (.aload_n 0, 1) := by decide +kernel
theorem dX3_readFigure_256 : decode cX3_readFigure 256 = .ok (.getfield 38, 3) := by decide +kernel
theorem dX3_readFigure_259 : decode cX3_readFigure 259 = .ok (.dup, 1) := by decide +kernel
theorem dX3_readFigure_260 : decode cX3_readFigure 260 = .ok (.getfield 65, 3) := by decide +kernel
theorem dX3_readFigure_263 : decode cX3_readFigure 263 = .ok (.iconst 1, 1) := by decide +kernel
theorem dX3_readFigure_264 : decode cX3_readFigure 264 = .ok (.iadd, 1) := by decide +kernel
theorem dX3_readFigure_265 : decode cX3_readFigure 265 = .ok (.putfield 65, 3) := by decide +kernel
theorem dX3_readFigure_268 : decode cX3_readFigure 268 = .ok (.return_, 1) := by decide +kernel
theorem dX3_readStick_0 : decode cX3_readStick 0 = .ok (.aload_n 0, 1) := by decide +kernel
theorem dX3_readStick_1 : decode cX3_readStick 1 = .ok (.aload_n 0, 1) := by decide +kernel
theorem dX3_readStick_2 : decode cX3_readStick 2 = .ok (.getfield 21, 3) := by decide +kernel
theorem dX3_readStick_5 : decode cX3_readStick 5 = .ok (.ifCond .ne 7, 3) := by decide +kernel
theorem dX3_readStick_8 : decode cX3_readStick 8 = .ok (.iconst 1, 1) := by decide +kernel
theorem dX3_readStick_9 : decode cX3_readStick 9 = .ok (.goto 4, 3) := by decide +kernel
theorem dX3_readStick_12 : decode cX3_readStick 12 = .ok (.iconst 0, 1) := by decide +kernel
theorem dX3_readStick_13 : decode cX3_readStick 13 = .ok (.iconst 4, 1) := by decide +kernel
theorem dX3_readStick_14 : decode cX3_readStick 14 = .ok (.invokevirtual 101, 3) := by decide +kernel
theorem dX3_readStick_17 : decode cX3_readStick 17 = .ok (.aload_n 0, 1) := by decide +kernel
theorem dX3_readStick_18 : decode cX3_readStick 18 = .ok (.iconst 1, 1) := by decide +kernel
theorem dX3_readStick_19 : decode cX3_readStick 19 = .ok (.putfield 21, 3) := by decide +kernel
theorem dX3_readStick_22 : decode cX3_readStick 22 = .ok (.aload_n 0, 1) := by decide +kernel
theorem dX3_readStick_23 : decode cX3_readStick 23 = .ok (.iconst 0, 1) := by decide +kernel
theorem dX3_readStick_24 : decode cX3_readStick 24 = .ok (.bipush 8, 2) := by decide +kernel
theorem dX3_readStick_26 : decode cX3_readStick 26 = .ok (.invokevirtual 113, 3) := by decide +kernel
theorem dX3_readStick_29 : decode cX3_readStick 29 = .ok (.istore_n 1, 1) := by decide +kernel
theorem dX3_readStick_30 : decode cX3_readStick 30 = .ok (.aload_n 0, 1) := by decide +kernel
theorem dX3_readStick_31 : decode cX3_readStick 31 = .ok (.iconst 0, 1) := by decide +kernel
theorem dX3_readStick_32 : decode cX3_readStick 32 = .ok (.sipush 365, 3) := by decide +kernel
theorem dX3_readStick_35 : decode cX3_readStick 35 = .ok (.invokevirtual 113, 3) := by decide +kernel
theorem dX3_readStick_38 : decode cX3_readStick 38 = .ok (.istore_n 2, 1) := by decide +kernel
theorem dX3_readStick_39 : decode cX3_readStick 39 = .ok (.aload_n 0, 1) := by decide +kernel
theorem dX3_readStick_40 : decode cX3_readStick 40 = .ok (.iload_n 2, 1) := by decide +kernel
theorem dX3_readStick_41 : decode cX3_readStick 41 = .ok (.sipush 365, 3) := by decide +kernel
theorem dX3_readStick_44 : decode cX3_readStick 44 = .ok (.invokevirtual 113, 3) := by decide +kernel
theorem dX3_readStick_47 : decode cX3_readStick 47 = .ok (.istore_n 3, 1) := by decide +kernel
theorem dX3_readStick_48 : decode cX3_readStick 48 = .ok (.aload_n 0, 1) := by decide +kernel
theorem dX3_readStick_49 : decode cX3_readStick 49 = .ok (.invokevirtual 117, 3) := by decide +kernel
theorem dX3_readStick_52 : decode cX3_readStick 52 = .ok (.aload_n 0, 1) := by decide +kernel
theorem dX3_readStick_53 : decode cX3_readStick 53 = .ok (.getfield 38, 3) := by decide +kernel
theorem dX3_readStick_56 : decode cX3_readStick 56 = .ok (.iload_n 1, 1) := by decide +kernel
theorem dX3_readStick_57 : decode cX3_readStick 57 = .ok (.iload_n 2, 1) := by decide +kernel
theorem dX3_readStick_58 : decode cX3_readStick 58 = .ok (.iload_n 3, 1) := by decide +kernel
theorem dX3_readStick_59 : decode cX3_readStick 59 = .ok (.invokevirtual 141, 3) := by decide +kernel
theorem dX3_readStick_62 : decode cX3_readStick 62 = .ok (.return_, 1) := by decide +kernel
theorem dX3_readReach_0 : decode cX3_readReach 0 = .ok (.aload_n 0, 1) := by decide +kernel
theorem dX3_readReach_1 : decode cX3_readReach 1 = .ok (.aload_n 0, 1) := by decide +kernel
theorem dX3_readReach_2 : decode cX3_readReach 2 = .ok (.getfield 25, 3) := by decide +kernel
theorem dX3_readReach_5 : decode cX3_readReach 5 = .ok (.ifCond .ne 7, 3) := by decide +kernel
theorem dX3_readReach_8 : decode cX3_readReach 8 = .ok (.iconst 1, 1) := by decide +kernel
theorem dX3_readReach_9 : decode cX3_readReach 9 = .ok (.goto 4, 3) := by decide +kernel
theorem dX3_readReach_12 : decode cX3_readReach 12 = .ok (.iconst 0, 1) := by decide +kernel
theorem dX3_readReach_13 : decode cX3_readReach 13 = .ok (.iconst 4, 1) := by decide +kernel
theorem dX3_readReach_14 : decode cX3_readReach 14 = .ok (.invokevirtual 101, 3) := by decide +kernel
theorem dX3_readReach_17 : decode cX3_readReach 17 = .ok (.aload_n 0, 1) := by decide +kernel
theorem dX3_readReach_18 : decode cX3_readReach 18 = .ok (.iconst 1, 1) := by decide +kernel
theorem dX3_readReach_19 : decode cX3_readReach 19 = .ok (.putfield 25, 3) := by decide +kernel
theorem dX3_readReach_22 : decode cX3_readReach 22 = .ok (.aload_n 0, 1) := by decide +kernel
theorem dX3_readReach_23 : decode cX3_readReach 23 = .ok (.getfield 38, 3) := by decide +kernel
theorem dX3_readReach_26 : decode cX3_readReach 26 = .ok (.aload_n 0, 1) := by decide +kernel
theorem dX3_readReach_27 : decode cX3_readReach 27 = .ok (.iconst 0, 1) := by decide +kernel
theorem dX3_readReach_28 : decode cX3_readReach 28 = .ok (.iconst 3, 1) := by decide +kernel
theorem dX3_readReach_29 : decode cX3_readReach 29 = .ok (.invokevirtual 113, 3) := by decide +kernel
theorem dX3_readReach_32 : decode cX3_readReach 32 = .ok (.putfield 145, 3) := by decide +kernel
theorem dX3_readReach_35 : decode cX3_readReach 35 = .ok (.aload_n 0, 1) := by decide +kernel
theorem dX3_readReach_36 : decode cX3_readReach 36 = .ok (.invokevirtual 117, 3) := by decide +kernel
theorem dX3_readReach_39 : decode cX3_readReach 39 = .ok (.return_, 1) := by decide +kernel
theorem dX3_readVote_0 : decode cX3_readVote 0 = .ok (.aload_n 0, 1) := by decide +kernel
theorem dX3_readVote_1 : decode cX3_readVote 1 = .ok (.aload_n 0, 1) := by decide +kernel
theorem dX3_readVote_2 : decode cX3_readVote 2 = .ok (.getfield 38, 3) := by decide +kernel
theorem dX3_readVote_5 : decode cX3_readVote 5 = .ok (.getfield 53, 3) := by decide +kernel
theorem dX3_readVote_8 : decode cX3_readVote 8 = .ok (.bipush 6, 2) := by decide +kernel
theorem dX3_readVote_10 : decode cX3_readVote 10 = .ok (.if_icmp .ge 7, 3) := by decide +kernel
theorem dX3_readVote_13 : decode cX3_readVote 13 = .ok (.iconst 1, 1) := by decide +kernel
theorem dX3_readVote_14 : decode cX3_readVote 14 = .ok (.goto 4, 3) := by decide +kernel
theorem dX3_readVote_17 : decode cX3_readVote 17 = .ok (.iconst 0, 1) := by decide +kernel
theorem dX3_readVote_18 : decode cX3_readVote 18 = .ok (.iconst 5, 1) := by decide +kernel
theorem dX3_readVote_19 : decode cX3_readVote 19 = .ok (.invokevirtual 101, 3) := by decide +kernel
theorem dX3_readVote_22 : decode cX3_readVote 22 = .ok (.aload_n 0, 1) := by decide +kernel
theorem dX3_readVote_23 : decode cX3_readVote 23 = .ok (.aload_n 0, 1) := by decide +kernel
theorem dX3_readVote_24 : decode cX3_readVote 24 = .ok (.getfield 38, 3) := by decide +kernel
theorem dX3_readVote_27 : decode cX3_readVote 27 = .ok (.invokevirtual 147, 3) := by decide +kernel
theorem dX3_readVote_30 : decode cX3_readVote 30 = .ok (.bipush 99, 2) := by decide +kernel
theorem dX3_readVote_32 : decode cX3_readVote 32 = .ok (.invokevirtual 113, 3) := by decide +kernel
theorem dX3_readVote_35 : decode cX3_readVote 35 = .ok (.istore_n 1, 1) := by decide +kernel
theorem dX3_readVote_36 : decode cX3_readVote 36 = .ok (.aload_n 0, 1) := by decide +kernel
theorem dX3_readVote_37 : decode cX3_readVote 37 = .ok (.iconst 0, 1) := by decide +kernel
theorem dX3_readVote_38 : decode cX3_readVote 38 = .ok (.iconst 5, 1) := by decide +kernel
theorem dX3_readVote_39 : decode cX3_readVote 39 = .ok (.invokevirtual 113, 3) := by decide +kernel
theorem dX3_readVote_42 : decode cX3_readVote 42 = .ok (.istore_n 2, 1) := by decide +kernel
theorem dX3_readVote_43 : decode cX3_readVote 43 = .ok (.aload_n 0, 1) := by decide +kernel
theorem dX3_readVote_44 : decode cX3_readVote 44 = .ok (.iconst 2, 1) := by decide +kernel
theorem dX3_readVote_45 : decode cX3_readVote 45 = .ok (.bipush 60, 2) := by decide +kernel
theorem dX3_readVote_47 : decode cX3_readVote 47 = .ok (.invokevirtual 113, 3) := by decide +kernel
theorem dX3_readVote_50 : decode cX3_readVote 50 = .ok (.istore_n 3, 1) := by decide +kernel
theorem dX3_readVote_51 : decode cX3_readVote 51 = .ok (.aload_n 0, 1) := by decide +kernel
theorem dX3_readVote_52 : decode cX3_readVote 52 = .ok (.iconst 0, 1) := by decide +kernel
theorem dX3_readVote_53 : decode cX3_readVote 53 = .ok (.iload_n 3, 1) := by decide +kernel
theorem dX3_readVote_54 : decode cX3_readVote 54 = .ok (.iconst 1, 1) := by decide +kernel
theorem dX3_readVote_55 : decode cX3_readVote 55 = .ok (.isub, 1) := by decide +kernel
theorem dX3_readVote_56 : decode cX3_readVote 56 = .ok (.invokevirtual 113, 3) := by decide +kernel
theorem dX3_readVote_59 : decode cX3_readVote 59 = .ok (.istore 4, 2) := by decide +kernel
end
section
theorem dX3_readVote_61 : decode cX3_readVote 61 = .ok (.aload_n 0, 1) := by decide +kernel
theorem dX3_readVote_62 : decode cX3_readVote 62 = .ok (.iconst 0, 1) := by decide +kernel
theorem dX3_readVote_63 : decode cX3_readVote 63 = .ok (.bipush 8, 2) := by decide +kernel
theorem dX3_readVote_65 : decode cX3_readVote 65 = .ok (.invokevirtual 113, 3) := by decide +kernel
theorem dX3_readVote_68 : decode cX3_readVote 68 = .ok (.istore 5, 2) := by decide +kernel
theorem dX3_readVote_70 : decode cX3_readVote 70 = .ok (.aload_n 0, 1) := by decide +kernel
theorem dX3_readVote_71 : decode cX3_readVote 71 = .ok (.invokevirtual 117, 3) := by decide +kernel
theorem dX3_readVote_74 : decode cX3_readVote 74 = .ok (.aload_n 0, 1) := by decide +kernel
theorem dX3_readVote_75 : decode cX3_readVote 75 = .ok (.getfield 28, 3) := by decide +kernel
theorem dX3_readVote_78 : decode cX3_readVote 78 = .ok (.ifCond .ne 17, 3) := by decide +kernel
theorem dX3_readVote_81 : decode cX3_readVote 81 = .ok (.aload_n 0, 1) := by decide +kernel
theorem dX3_readVote_82 : decode cX3_readVote 82 = .ok (.getfield 38, 3) := by decide +kernel
theorem dX3_readVote_85 : decode cX3_readVote 85 = .ok (.iload_n 1, 1) := by decide +kernel
theorem dX3_readVote_86 : decode cX3_readVote 86 = .ok (.iload_n 2, 1) := by decide +kernel
theorem dX3_readVote_87 : decode cX3_readVote 87 = .ok (.iload_n 3, 1) := by decide +kernel
theorem dX3_readVote_88 : decode cX3_readVote 88 = .ok (.iload 4, 2) := by decide +kernel
theorem dX3_readVote_90 : decode cX3_readVote 90 = .ok (.iload 5, 2) := by decide +kernel
theorem dX3_readVote_92 : decode cX3_readVote 92 = .ok (.invokevirtual 151, 3) := by decide +kernel
theorem dX3_readVote_95 : decode cX3_readVote 95 = .ok (.return_, 1) := by decide +kernel
theorem dX3_endLine_0 : decode cX3_endLine 0 = .ok (.aload_n 0, 1) := by decide +kernel
theorem dX3_endLine_1 : decode cX3_endLine 1 = .ok (.invokevirtual 47, 3) := by decide +kernel
theorem dX3_endLine_4 : decode cX3_endLine 4 = .ok (.aload_n 0, 1) := by decide +kernel
theorem dX3_endLine_5 : decode cX3_endLine 5 = .ok (.aload_n 0, 1) := by decide +kernel
theorem dX3_endLine_6 : decode cX3_endLine 6 = .ok (.getfield 11, 3) := by decide +kernel
theorem dX3_endLine_9 : decode cX3_endLine 9 = .ok (.iconst 3, 1) := by decide +kernel
theorem dX3_endLine_10 : decode cX3_endLine 10 = .ok (.if_icmp .ne 7, 3) := by decide +kernel
theorem dX3_endLine_13 : decode cX3_endLine 13 = .ok (.iconst 1, 1) := by decide +kernel
theorem dX3_endLine_14 : decode cX3_endLine 14 = .ok (.goto 4, 3) := by decide +kernel
theorem dX3_endLine_17 : decode cX3_endLine 17 = .ok (.iconst 0, 1) := by decide +kernel
theorem dX3_endLine_18 : decode cX3_endLine 18 = .ok (.iconst 2, 1) := by decide +kernel
theorem dX3_endLine_19 : decode cX3_endLine 19 = .ok (.invokevirtual 101, 3) := by decide +kernel
theorem dX3_endLine_22 : decode cX3_endLine 22 = .ok (.return_, 1) := by decide +kernel
theorem dX3_number_0 : decode cX3_number 0 = .ok (.aload_n 0, 1) := by decide +kernel
theorem dX3_number_1 : decode cX3_number 1 = .ok (.invokevirtual 47, 3) := by decide +kernel
theorem dX3_number_4 : decode cX3_number 4 = .ok (.aload_n 0, 1) := by decide +kernel
theorem dX3_number_5 : decode cX3_number 5 = .ok (.aload_n 0, 1) := by decide +kernel
theorem dX3_number_6 : decode cX3_number 6 = .ok (.getfield 11, 3) := by decide +kernel
theorem dX3_number_9 : decode cX3_number 9 = .ok (.iconst 2, 1) := by decide +kernel
theorem dX3_number_10 : decode cX3_number 10 = .ok (.if_icmp .ne 7, 3) := by decide +kernel
theorem dX3_number_13 : decode cX3_number 13 = .ok (.iconst 1, 1) := by decide +kernel
theorem dX3_number_14 : decode cX3_number 14 = .ok (.goto 4, 3) := by decide +kernel
theorem dX3_number_17 : decode cX3_number 17 = .ok (.iconst 0, 1) := by decide +kernel
theorem dX3_number_18 : decode cX3_number 18 = .ok (.iconst 2, 1) := by decide +kernel
theorem dX3_number_19 : decode cX3_number 19 = .ok (.invokevirtual 101, 3) := by decide +kernel
theorem dX3_number_22 : decode cX3_number 22 = .ok (.aload_n 0, 1) := by decide +kernel
theorem dX3_number_23 : decode cX3_number 23 = .ok (.getfield 28, 3) := by decide +kernel
theorem dX3_number_26 : decode cX3_number 26 = .ok (.ifCond .eq 5, 3) := by decide +kernel
theorem dX3_number_29 : decode cX3_number 29 = .ok (.iconst 0, 1) := by decide +kernel
theorem dX3_number_30 : decode cX3_number 30 = .ok (.ireturn, 1) := by decide +kernel
theorem dX3_number_31 : decode cX3_number 31 = .ok (.iconst 0, 1) := by decide +kernel
theorem dX3_number_32 : decode cX3_number 32 = .ok (.istore_n 3, 1) := by decide +kernel
theorem dX3_number_33 : decode cX3_number 33 = .ok (.aload_n 0, 1) := by decide +kernel
theorem dX3_number_34 : decode cX3_number 34 = .ok (.getfield 15, 3) := by decide +kernel
theorem dX3_number_37 : decode cX3_number 37 = .ok (.istore 4, 2) := by decide +kernel
theorem dX3_number_39 : decode cX3_number 39 = .ok (.iload 4, 2) := by decide +kernel
theorem dX3_number_41 : decode cX3_number 41 = .ok (.aload_n 0, 1) := by decide +kernel
theorem dX3_number_42 : decode cX3_number 42 = .ok (.getfield 18, 3) := by decide +kernel
theorem dX3_number_45 : decode cX3_number 45 = .ok (.if_icmp .ge 28, 3) := by decide +kernel
theorem dX3_number_48 : decode cX3_number 48 = .ok (.bipush 10, 2) := by decide +kernel
theorem dX3_number_50 : decode cX3_number 50 = .ok (.iload_n 3, 1) := by decide +kernel
theorem dX3_number_51 : decode cX3_number 51 = .ok (.imul, 1) := by decide +kernel
theorem dX3_number_52 : decode cX3_number 52 = .ok (.aload_n 0, 1) := by decide +kernel
theorem dX3_number_53 : decode cX3_number 53 = .ok (.getfield 34, 3) := by decide +kernel
theorem dX3_number_56 : decode cX3_number 56 = .ok (.getfield 155, 3) := by decide +kernel
theorem dX3_number_59 : decode cX3_number 59 = .ok (.iload 4, 2) := by decide +kernel
theorem dX3_number_61 : decode cX3_number 61 = .ok (.iaload, 1) := by decide +kernel
theorem dX3_number_62 : decode cX3_number 62 = .ok (.iadd, 1) := by decide +kernel
theorem dX3_number_63 : decode cX3_number 63 = .ok (.bipush 48, 2) := by decide +kernel
theorem dX3_number_65 : decode cX3_number 65 = .ok (.isub, 1) := by decide +kernel
theorem dX3_number_66 : decode cX3_number 66 = .ok (.istore_n 3, 1) := by decide +kernel
theorem dX3_number_67 : decode cX3_number 67 = .ok (.iinc 4 1, 3) := by decide +kernel
theorem dX3_number_70 : decode cX3_number 70 = .ok (.goto (-31), 3) := by decide +kernel
theorem dX3_number_73 : decode cX3_number 73 = .ok (.aload_n 0, 1) := by decide +kernel
theorem dX3_number_74 : decode cX3_number 74 = .ok (.iload_n 3, 1) := by decide +kernel
theorem dX3_number_75 : decode cX3_number 75 = .ok (.iload_n 1, 1) := by decide +kernel
theorem dX3_number_76 : decode cX3_number 76 = .ok (.if_icmp .lt 12, 3) := by decide +kernel
theorem dX3_number_79 : decode cX3_number 79 = .ok (.iload_n 3, 1) := by decide +kernel
theorem dX3_number_80 : decode cX3_number 80 = .ok (.iload_n 2, 1) := by decide +kernel
theorem dX3_number_81 : decode cX3_number 81 = .ok (.if_icmp .gt 7, 3) := by decide +kernel
theorem dX3_number_84 : decode cX3_number 84 = .ok (.iconst 1, 1) := by decide +kernel
theorem dX3_number_85 : decode cX3_number 85 = .ok (.goto 4, 3) := by decide +kernel
theorem dX3_number_88 : decode cX3_number 88 = .ok (.iconst 0, 1) := by decide +kernel
theorem dX3_number_89 : decode cX3_number 89 = .ok (.iconst 3, 1) := by decide +kernel
theorem dX3_number_90 : decode cX3_number 90 = .ok (.invokevirtual 101, 3) := by decide +kernel
theorem dX3_number_93 : decode cX3_number 93 = .ok (.iload_n 3, 1) := by decide +kernel
theorem dX3_number_94 : decode cX3_number 94 = .ok (.ireturn, 1) := by decide +kernel
theorem dX3_isName_0 : decode cX3_isName 0 = .ok (.aload_n 0, 1) := by decide +kernel
theorem dX3_isName_1 : decode cX3_isName 1 = .ok (.getfield 11, 3) := by decide +kernel
theorem dX3_isName_4 : decode cX3_isName 4 = .ok (.iconst 1, 1) := by decide +kernel
theorem dX3_isName_5 : decode cX3_isName 5 = .ok (.if_icmp .ne 19, 3) := by decide +kernel
theorem dX3_isName_8 : decode cX3_isName 8 = .ok (.aload_n 0, 1) := by decide +kernel
theorem dX3_isName_9 : decode cX3_isName 9 = .ok (.getfield 18, 3) := by decide +kernel
theorem dX3_isName_12 : decode cX3_isName 12 = .ok (.aload_n 0, 1) := by decide +kernel
theorem dX3_isName_13 : decode cX3_isName 13 = .ok (.getfield 15, 3) := by decide +kernel
theorem dX3_isName_16 : decode cX3_isName 16 = .ok (.isub, 1) := by decide +kernel
theorem dX3_isName_17 : decode cX3_isName 17 = .ok (.aload_n 1, 1) := by decide +kernel
theorem dX3_isName_18 : decode cX3_isName 18 = .ok (.invokevirtual 159, 3) := by decide +kernel
theorem dX3_isName_21 : decode cX3_isName 21 = .ok (.if_icmp .eq 5, 3) := by decide +kernel
theorem dX3_isName_24 : decode cX3_isName 24 = .ok (.iconst 0, 1) := by decide +kernel
theorem dX3_isName_25 : decode cX3_isName 25 = .ok (.ireturn, 1) := by decide +kernel
theorem dX3_isName_26 : decode cX3_isName 26 = .ok (.iconst 0, 1) := by decide +kernel
theorem dX3_isName_27 : decode cX3_isName 27 = .ok (.istore_n 2, 1) := by decide +kernel
theorem dX3_isName_28 : decode cX3_isName 28 = .ok (.iload_n 2, 1) := by decide +kernel
theorem dX3_isName_29 : decode cX3_isName 29 = .ok (.aload_n 1, 1) := by decide +kernel
theorem dX3_isName_30 : decode cX3_isName 30 = .ok (.invokevirtual 159, 3) := by decide +kernel
theorem dX3_isName_33 : decode cX3_isName 33 = .ok (.if_icmp .ge 33, 3) := by decide +kernel
theorem dX3_isName_36 : decode cX3_isName 36 = .ok (.aload_n 0, 1) := by decide +kernel
theorem dX3_isName_37 : decode cX3_isName 37 = .ok (.getfield 34, 3) := by decide +kernel
theorem dX3_isName_40 : decode cX3_isName 40 = .ok (.getfield 155, 3) := by decide +kernel
theorem dX3_isName_43 : decode cX3_isName 43 = .ok (.aload_n 0, 1) := by decide +kernel
theorem dX3_isName_44 : decode cX3_isName 44 = .ok (.getfield 15, 3) := by decide +kernel
theorem dX3_isName_47 : decode cX3_isName 47 = .ok (.iload_n 2, 1) := by decide +kernel
theorem dX3_isName_48 : decode cX3_isName 48 = .ok (.iadd, 1) := by decide +kernel
theorem dX3_isName_49 : decode cX3_isName 49 = .ok (.iaload, 1) := by decide +kernel
theorem dX3_isName_50 : decode cX3_isName 50 = .ok (.aload_n 1, 1) := by decide +kernel
theorem dX3_isName_51 : decode cX3_isName 51 = .ok (.iload_n 2, 1) := by decide +kernel
theorem dX3_isName_52 : decode cX3_isName 52 = .ok (.invokevirtual 163, 3) := by decide +kernel
theorem dX3_isName_55 : decode cX3_isName 55 = .ok (.if_icmp .eq 5, 3) := by decide +kernel
theorem dX3_isName_58 : decode cX3_isName 58 = .ok (.iconst 0, 1) := by decide +kernel
theorem dX3_isName_59 : decode cX3_isName 59 = .ok (.ireturn, 1) := by decide +kernel
theorem dX3_isName_60 : decode cX3_isName 60 = .ok (.iinc 2 1, 3) := by decide +kernel
theorem dX3_isName_63 : decode cX3_isName 63 = .ok (.goto (-35), 3) := by decide +kernel
theorem dX3_isName_66 : decode cX3_isName 66 = .ok (.iconst 1, 1) := by decide +kernel
theorem dX3_isName_67 : decode cX3_isName 67 = .ok (.ireturn, 1) := by decide +kernel
theorem dX3_demand_0 : decode cX3_demand 0 = .ok (.iload_n 1, 1) := by decide +kernel
theorem dX3_demand_1 : decode cX3_demand 1 = .ok (.ifCond .ne 12, 3) := by decide +kernel
theorem dX3_demand_4 : decode cX3_demand 4 = .ok (.aload_n 0, 1) := by decide +kernel
theorem dX3_demand_5 : decode cX3_demand 5 = .ok (.iload_n 2, 1) := by decide +kernel
theorem dX3_demand_6 : decode cX3_demand 6 = .ok (.aload_n 0, 1) := by decide +kernel
theorem dX3_demand_7 : decode cX3_demand 7 = .ok (.getfield 15, 3) := by decide +kernel
theorem dX3_demand_10 : decode cX3_demand 10 = .ok (.invokevirtual 73, 3) := by decide +kernel
theorem dX3_demand_13 : decode cX3_demand 13 = .ok (.return_, 1) := by decide +kernel
theorem dX3_refuse_0 : decode cX3_refuse 0 = .ok (.aload_n 0, 1) := by decide +kernel
theorem dX3_refuse_1 : decode cX3_refuse 1 = .ok (.getfield 28, 3) := by decide +kernel
theorem dX3_refuse_4 : decode cX3_refuse 4 = .ok (.ifCond .ne 13, 3) := by decide +kernel
theorem dX3_refuse_7 : decode cX3_refuse 7 = .ok (.aload_n 0, 1) := by decide +kernel
theorem dX3_refuse_8 : decode cX3_refuse 8 = .ok (.iload_n 1, 1) := by decide +kernel
theorem dX3_refuse_9 : decode cX3_refuse 9 = .ok (.putfield 28, 3) := by decide +kernel
theorem dX3_refuse_12 : decode cX3_refuse 12 = .ok (.aload_n 0, 1) := by decide +kernel
theorem dX3_refuse_13 : decode cX3_refuse 13 = .ok (.iload_n 2, 1) := by decide +kernel
theorem dX3_refuse_14 : decode cX3_refuse 14 = .ok (.putfield 31, 3) := by decide +kernel
theorem dX3_refuse_17 : decode cX3_refuse 17 = .ok (.return_, 1) := by decide +kernel
theorem dX3_advance_0 : decode cX3_advance 0 = .ok (.aload_n 0, 1) := by decide +kernel
theorem dX3_advance_1 : decode cX3_advance 1 = .ok (.getfield 28, 3) := by decide +kernel
theorem dX3_advance_4 : decode cX3_advance 4 = .ok (.ifCond .eq 4, 3) := by decide +kernel
theorem dX3_advance_7 : decode cX3_advance 7 = .ok (.return_, 1) := by decide +kernel
theorem dX3_advance_8 : decode cX3_advance 8 = .ok (.aload_n 0, 1) := by decide +kernel
theorem dX3_advance_9 : decode cX3_advance 9 = .ok (.getfield 18, 3) := by decide +kernel
theorem dX3_advance_12 : decode cX3_advance 12 = .ok (.istore_n 1, 1) := by decide +kernel
theorem dX3_advance_13 : decode cX3_advance 13 = .ok (.iload_n 1, 1) := by decide +kernel
theorem dX3_advance_14 : decode cX3_advance 14 = .ok (.aload_n 0, 1) := by decide +kernel
theorem dX3_advance_15 : decode cX3_advance 15 = .ok (.getfield 34, 3) := by decide +kernel
theorem dX3_advance_18 : decode cX3_advance 18 = .ok (.getfield 68, 3) := by decide +kernel
theorem dX3_advance_21 : decode cX3_advance 21 = .ok (.if_icmp .ge 22, 3) := by decide +kernel
theorem dX3_advance_24 : decode cX3_advance 24 = .ok (.aload_n 0, 1) := by decide +kernel
theorem dX3_advance_25 : decode cX3_advance 25 = .ok (.getfield 34, 3) := by decide +kernel
theorem dX3_advance_28 : decode cX3_advance 28 = .ok (.iload_n 1, 1) := by decide +kernel
theorem dX3_advance_29 : decode cX3_advance 29 = .ok (.bipush 32, 2) := by decide +kernel
theorem dX3_advance_31 : decode cX3_advance 31 = .ok (.invokevirtual 167, 3) := by decide +kernel
theorem dX3_advance_34 : decode cX3_advance 34 = .ok (.ifCond .eq 9, 3) := by decide +kernel
theorem dX3_advance_37 : decode cX3_advance 37 = .ok (.iinc 1 1, 3) := by decide +kernel
theorem dX3_advance_40 : decode cX3_advance 40 = .ok (.goto (-27), 3) := by decide +kernel
theorem dX3_advance_43 : decode cX3_advance 43 = .ok (.aload_n 0, 1) := by decide +kernel
theorem dX3_advance_44 : decode cX3_advance 44 = .ok (.iload_n 1, 1) := by decide +kernel
theorem dX3_advance_45 : decode cX3_advance 45 = .ok (.putfield 15, 3) := by decide +kernel
theorem dX3_advance_48 : decode cX3_advance 48 = .ok (.iload_n 1, 1) := by decide +kernel
theorem dX3_advance_49 : decode cX3_advance 49 = .ok (.aload_n 0, 1) := by decide +kernel
theorem dX3_advance_50 : decode cX3_advance 50 = .ok (.getfield 34, 3) := by decide +kernel
theorem dX3_advance_53 : decode cX3_advance 53 = .ok (.getfield 68, 3) := by decide +kernel
theorem dX3_advance_56 : decode cX3_advance 56 = .ok (.if_icmp .lt 11, 3) := by decide +kernel
theorem dX3_advance_59 : decode cX3_advance 59 = .ok (.aload_n 0, 1) := by decide +kernel
theorem dX3_advance_60 : decode cX3_advance 60 = .ok (.iconst 0, 1) := by decide +kernel
theorem dX3_advance_61 : decode cX3_advance 61 = .ok (.putfield 11, 3) := by decide +kernel
theorem dX3_advance_64 : decode cX3_advance 64 = .ok (.goto 137, 3) := by decide +kernel
theorem dX3_advance_67 : decode cX3_advance 67 = .ok (.aload_n 0, 1) := by decide +kernel
theorem dX3_advance_68 : decode cX3_advance 68 = .ok (.getfield 34, 3) := by decide +kernel
theorem dX3_advance_71 : decode cX3_advance 71 = .ok (.iload_n 1, 1) := by decide +kernel
theorem dX3_advance_72 : decode cX3_advance 72 = .ok (.invokevirtual 171, 3) := by decide +kernel
theorem dX3_advance_75 : decode cX3_advance 75 = .ok (.ifCond .eq 36, 3) := by decide +kernel
theorem dX3_advance_78 : decode cX3_advance 78 = .ok (.aload_n 0, 1) := by decide +kernel
theorem dX3_advance_79 : decode cX3_advance 79 = .ok (.iconst 1, 1) := by decide +kernel
theorem dX3_advance_80 : decode cX3_advance 80 = .ok (.putfield 11, 3) := by decide +kernel
theorem dX3_advance_83 : decode cX3_advance 83 = .ok (.iload_n 1, 1) := by decide +kernel
theorem dX3_advance_84 : decode cX3_advance 84 = .ok (.aload_n 0, 1) := by decide +kernel
theorem dX3_advance_85 : decode cX3_advance 85 = .ok (.getfield 34, 3) := by decide +kernel
theorem dX3_advance_88 : decode cX3_advance 88 = .ok (.getfield 68, 3) := by decide +kernel
theorem dX3_advance_91 : decode cX3_advance 91 = .ok (.if_icmp .ge 110, 3) := by decide +kernel
theorem dX3_advance_94 : decode cX3_advance 94 = .ok (.aload_n 0, 1) := by decide +kernel
theorem dX3_advance_95 : decode cX3_advance 95 = .ok (.getfield 34, 3) := by decide +kernel
theorem dX3_advance_98 : decode cX3_advance 98 = .ok (.iload_n 1, 1) := by decide +kernel
theorem dX3_advance_99 : decode cX3_advance 99 = .ok (.invokevirtual 171, 3) := by decide +kernel
theorem dX3_advance_102 : decode cX3_advance 102 = .ok (.ifCond .eq 99, 3) := by decide +kernel
theorem dX3_advance_105 : decode cX3_advance 105 = .ok (.iinc 1 1, 3) := by decide +kernel
theorem dX3_advance_108 : decode cX3_advance 108 = .ok (.goto (-25), 3) := by decide +kernel
theorem dX3_advance_111 : decode cX3_advance 111 = .ok (.aload_n 0, 1) := by decide +kernel
theorem dX3_advance_112 : decode cX3_advance 112 = .ok (.getfield 34, 3) := by decide +kernel
theorem dX3_advance_115 : decode cX3_advance 115 = .ok (.iload_n 1, 1) := by decide +kernel
theorem dX3_advance_116 : decode cX3_advance 116 = .ok (.invokevirtual 175, 3) := by decide +kernel
theorem dX3_advance_119 : decode cX3_advance 119 = .ok (.ifCond .eq 59, 3) := by decide +kernel
theorem dX3_advance_122 : decode cX3_advance 122 = .ok (.aload_n 0, 1) := by decide +kernel
theorem dX3_advance_123 : decode cX3_advance 123 = .ok (.iconst 2, 1) := by decide +kernel
theorem dX3_advance_124 : decode cX3_advance 124 = .ok (.putfield 11, 3) := by decide +kernel
theorem dX3_advance_127 : decode cX3_advance 127 = .ok (.iload_n 1, 1) := by decide +kernel
theorem dX3_advance_128 : decode cX3_advance 128 = .ok (.aload_n 0, 1) := by decide +kernel
theorem dX3_advance_129 : decode cX3_advance 129 = .ok (.getfield 34, 3) := by decide +kernel
theorem dX3_advance_132 : decode cX3_advance 132 = .ok (.getfield 68, 3) := by decide +kernel
theorem dX3_advance_135 : decode cX3_advance 135 = .ok (.if_icmp .ge 20, 3) := by decide +kernel
theorem dX3_advance_138 : decode cX3_advance 138 = .ok (.aload_n 0, 1) := by decide +kernel
theorem dX3_advance_139 : decode cX3_advance 139 = .ok (.getfield 34, 3) := by decide +kernel
theorem dX3_advance_142 : decode cX3_advance 142 = .ok (.iload_n 1, 1) := by decide +kernel
theorem dX3_advance_143 : decode cX3_advance 143 = .ok (.invokevirtual 175, 3) := by decide +kernel
theorem dX3_advance_146 : decode cX3_advance 146 = .ok (.ifCond .eq 9, 3) := by decide +kernel
theorem dX3_advance_149 : decode cX3_advance 149 = .ok (.iinc 1 1, 3) := by decide +kernel
theorem dX3_advance_152 : decode cX3_advance 152 = .ok (.goto (-25), 3) := by decide +kernel
theorem dX3_advance_155 : decode cX3_advance 155 = .ok (.aload_n 0, 1) := by decide +kernel
theorem dX3_advance_156 : decode cX3_advance 156 = .ok (.iload_n 1, 1) := by decide +kernel
theorem dX3_advance_157 : decode cX3_advance 157 = .ok (.aload_n 0, 1) := by decide +kernel
theorem dX3_advance_158 : decode cX3_advance 158 = .ok (.getfield 15, 3) := by decide +kernel
theorem dX3_advance_161 : decode cX3_advance 161 = .ok (.isub, 1) := by decide +kernel
theorem dX3_advance_162 : decode cX3_advance 162 = .ok (.iconst 3, 1) := by decide +kernel
theorem dX3_advance_163 : decode cX3_advance 163 = .ok (.if_icmp .gt 7, 3) := by decide +kernel
theorem dX3_advance_166 : decode cX3_advance 166 = .ok (.iconst 1, 1) := by decide +kernel
theorem dX3_advance_167 : decode cX3_advance 167 = .ok (.goto 4, 3) := by decide +kernel
theorem dX3_advance_170 : decode cX3_advance 170 = .ok (.iconst 0, 1) := by decide +kernel
theorem dX3_advance_171 : decode cX3_advance 171 = .ok (.iconst 1, 1) := by decide +kernel
theorem dX3_advance_172 : decode cX3_advance 172 = .ok (.invokevirtual 101, 3) := by decide +kernel
theorem dX3_advance_175 : decode cX3_advance 175 = .ok (.goto 26, 3) := by decide +kernel
theorem dX3_advance_178 : decode cX3_advance 178 = .ok (.aload_n 0, 1) := by decide +kernel
theorem dX3_advance_179 : decode cX3_advance 179 = .ok (.iconst 3, 1) := by decide +kernel
theorem dX3_advance_180 : decode cX3_advance 180 = .ok (.putfield 11, 3) := by decide +kernel
theorem dX3_advance_183 : decode cX3_advance 183 = .ok (.aload_n 0, 1) := by decide +kernel
theorem dX3_advance_184 : decode cX3_advance 184 = .ok (.aload_n 0, 1) := by decide +kernel
theorem dX3_advance_185 : decode cX3_advance 185 = .ok (.getfield 34, 3) := by decide +kernel
theorem dX3_advance_188 : decode cX3_advance 188 = .ok (.iload_n 1, 1) := by decide +kernel
theorem dX3_advance_189 : decode cX3_advance 189 = .ok (.bipush 59, 2) := by decide +kernel
theorem dX3_advance_191 : decode cX3_advance 191 = .ok (.invokevirtual 167, 3) := by decide +kernel
theorem dX3_advance_194 : decode cX3_advance 194 = .ok (.iconst 1, 1) := by decide +kernel
theorem dX3_advance_195 : decode cX3_advance 195 = .ok (.invokevirtual 101, 3) := by decide +kernel
theorem dX3_advance_198 : decode cX3_advance 198 = .ok (.iinc 1 1, 3) := by decide +kernel
theorem dX3_advance_201 : decode cX3_advance 201 = .ok (.aload_n 0, 1) := by decide +kernel
theorem dX3_advance_202 : decode cX3_advance 202 = .ok (.iload_n 1, 1) := by decide +kernel
theorem dX3_advance_203 : decode cX3_advance 203 = .ok (.putfield 18, 3) := by decide +kernel
theorem dX3_advance_206 : decode cX3_advance 206 = .ok (.return_, 1) := by decide +kernel
theorem dX4_init_0 : decode cX4_init 0 = .ok (.aload_n 0, 1) := by decide +kernel
theorem dX4_init_1 : decode cX4_init 1 = .ok (.invokespecial 3, 3) := by decide +kernel
theorem dX4_init_4 : decode cX4_init 4 = .ok (.aload_n 0, 1) := by decide +kernel
theorem dX4_init_5 : decode cX4_init 5 = .ok (.bipush 40, 2) := by decide +kernel
theorem dX4_init_7 : decode cX4_init 7 = .ok (.newarray .int, 2) := by decide +kernel
theorem dX4_init_9 : decode cX4_init 9 = .ok (.putfield 9, 3) := by decide +kernel
theorem dX4_init_12 : decode cX4_init 12 = .ok (.aload_n 0, 1) := by decide +kernel
theorem dX4_init_13 : decode cX4_init 13 = .ok (.iconst 0, 1) := by decide +kernel
theorem dX4_init_14 : decode cX4_init 14 = .ok (.putfield 15, 3) := by decide +kernel
theorem dX4_init_17 : decode cX4_init 17 = .ok (.aload_n 0, 1) := by decide +kernel
theorem dX4_init_18 : decode cX4_init 18 = .ok (.iconst (-1), 1) := by decide +kernel
theorem dX4_init_19 : decode cX4_init 19 = .ok (.putfield 19, 3) := by decide +kernel
theorem dX4_init_22 : decode cX4_init 22 = .ok (.return_, 1) := by decide +kernel
theorem dX4_renew_0 : decode cX4_renew 0 = .ok (.aload_n 0, 1) := by decide +kernel
theorem dX4_renew_1 : decode cX4_renew 1 = .ok (.iload_n 1, 1) := by decide +kernel
theorem dX4_renew_2 : decode cX4_renew 2 = .ok (.putfield 15, 3) := by decide +kernel
theorem dX4_renew_5 : decode cX4_renew 5 = .ok (.aload_n 0, 1) := by decide +kernel
theorem dX4_renew_6 : decode cX4_renew 6 = .ok (.iload_n 2, 1) := by decide +kernel
theorem dX4_renew_7 : decode cX4_renew 7 = .ok (.putfield 19, 3) := by decide +kernel
theorem dX4_renew_10 : decode cX4_renew 10 = .ok (.iconst 0, 1) := by decide +kernel
theorem dX4_renew_11 : decode cX4_renew 11 = .ok (.istore_n 3, 1) := by decide +kernel
theorem dX4_renew_12 : decode cX4_renew 12 = .ok (.iload_n 3, 1) := by decide +kernel
theorem dX4_renew_13 : decode cX4_renew 13 = .ok (.aload_n 0, 1) := by decide +kernel
theorem dX4_renew_14 : decode cX4_renew 14 = .ok (.getfield 9, 3) := by decide +kernel
theorem dX4_renew_17 : decode cX4_renew 17 = .ok (.arraylength, 1) := by decide +kernel
theorem dX4_renew_18 : decode cX4_renew 18 = .ok (.if_icmp .ge 16, 3) := by decide +kernel
theorem dX4_renew_21 : decode cX4_renew 21 = .ok (.aload_n 0, 1) := by decide +kernel
theorem dX4_renew_22 : decode cX4_renew 22 = .ok (.getfield 9, 3) := by decide +kernel
theorem dX4_renew_25 : decode cX4_renew 25 = .ok (.iload_n 3, 1) := by decide +kernel
theorem dX4_renew_26 : decode cX4_renew 26 = .ok (.iconst 0, 1) := by decide +kernel
theorem dX4_renew_27 : decode cX4_renew 27 = .ok (.iastore, 1) := by decide +kernel
theorem dX4_renew_28 : decode cX4_renew 28 = .ok (.iinc 3 1, 3) := by decide +kernel
theorem dX4_renew_31 : decode cX4_renew 31 = .ok (.goto (-19), 3) := by decide +kernel
theorem dX4_renew_34 : decode cX4_renew 34 = .ok (.return_, 1) := by decide +kernel
theorem dX4_faultOf_0 : decode cX4_faultOf 0 = .ok (.aload_n 0, 1) := by decide +kernel
theorem dX4_faultOf_1 : decode cX4_faultOf 1 = .ok (.getfield 19, 3) := by decide +kernel
theorem dX4_faultOf_4 : decode cX4_faultOf 4 = .ok (.ifCond .ge 5, 3) := by decide +kernel
theorem dX4_faultOf_7 : decode cX4_faultOf 7 = .ok (.iconst 1, 1) := by decide +kernel
theorem dX4_faultOf_8 : decode cX4_faultOf 8 = .ok (.ireturn, 1) := by decide +kernel
theorem dX4_faultOf_9 : decode cX4_faultOf 9 = .ok (.iload_n 1, 1) := by decide +kernel
theorem dX4_faultOf_10 : decode cX4_faultOf 10 = .ok (.aload_n 0, 1) := by decide +kernel
theorem dX4_faultOf_11 : decode cX4_faultOf 11 = .ok (.getfield 15, 3) := by decide +kernel
theorem dX4_faultOf_14 : decode cX4_faultOf 14 = .ok (.if_icmp .eq 5, 3) := by decide +kernel
theorem dX4_faultOf_17 : decode cX4_faultOf 17 = .ok (.iconst 3, 1) := by decide +kernel
theorem dX4_faultOf_18 : decode cX4_faultOf 18 = .ok (.ireturn, 1) := by decide +kernel
theorem dX4_faultOf_19 : decode cX4_faultOf 19 = .ok (.lload_n 2, 1) := by decide +kernel
theorem dX4_faultOf_20 : decode cX4_faultOf 20 = .ok (.lconst 0, 1) := by decide +kernel
theorem dX4_faultOf_21 : decode cX4_faultOf 21 = .ok (.lcmp, 1) := by decide +kernel
theorem dX4_faultOf_22 : decode cX4_faultOf 22 = .ok (.ifCond .lt 17, 3) := by decide +kernel
theorem dX4_faultOf_25 : decode cX4_faultOf 25 = .ok (.lload_n 2, 1) := by decide +kernel
theorem dX4_faultOf_26 : decode cX4_faultOf 26 = .ok (.iload 4, 2) := by decide +kernel
theorem dX4_faultOf_28 : decode cX4_faultOf 28 = .ok (.i2l, 1) := by decide +kernel
theorem dX4_faultOf_29 : decode cX4_faultOf 29 = .ok (.ladd, 1) := by decide +kernel
theorem dX4_faultOf_30 : decode cX4_faultOf 30 = .ok (.aload_n 0, 1) := by decide +kernel
theorem dX4_faultOf_31 : decode cX4_faultOf 31 = .ok (.getfield 19, 3) := by decide +kernel
theorem dX4_faultOf_34 : decode cX4_faultOf 34 = .ok (.i2l, 1) := by decide +kernel
theorem dX4_faultOf_35 : decode cX4_faultOf 35 = .ok (.lcmp, 1) := by decide +kernel
theorem dX4_faultOf_36 : decode cX4_faultOf 36 = .ok (.ifCond .le 7, 3) := by decide +kernel
theorem dX4_faultOf_39 : decode cX4_faultOf 39 = .ok (.iconst 2, 1) := by decide +kernel
theorem dX4_faultOf_40 : decode cX4_faultOf 40 = .ok (.goto 4, 3) := by decide +kernel
theorem dX4_faultOf_43 : decode cX4_faultOf 43 = .ok (.iconst 0, 1) := by decide +kernel
theorem dX4_faultOf_44 : decode cX4_faultOf 44 = .ok (.ireturn, 1) := by decide +kernel
theorem dX4_put_0 : decode cX4_put 0 = .ok (.aload_n 0, 1) := by decide +kernel
theorem dX4_put_1 : decode cX4_put 1 = .ok (.getfield 15, 3) := by decide +kernel
theorem dX4_put_4 : decode cX4_put 4 = .ok (.lookupswitch 50 #[(0, 28), (1, 39)], 28) := by decide +kernel
theorem dX4_put_32 : decode cX4_put 32 = .ok (.aload_n 0, 1) := by decide +kernel
theorem dX4_put_33 : decode cX4_put 33 = .ok (.getfield 9, 3) := by decide +kernel
theorem dX4_put_36 : decode cX4_put 36 = .ok (.iload_n 1, 1) := by decide +kernel
theorem dX4_put_37 : decode cX4_put 37 = .ok (.iload_n 2, 1) := by decide +kernel
theorem dX4_put_38 : decode cX4_put 38 = .ok (.i2b, 1) := by decide +kernel
theorem dX4_put_39 : decode cX4_put 39 = .ok (.iastore, 1) := by decide +kernel
theorem dX4_put_40 : decode cX4_put 40 = .ok (.goto 21, 3) := by decide +kernel
theorem dX4_put_43 : decode cX4_put 43 = .ok (.aload_n 0, 1) := by decide +kernel
theorem dX4_put_44 : decode cX4_put 44 = .ok (.getfield 9, 3) := by decide +kernel
theorem dX4_put_47 : decode cX4_put 47 = .ok (.iload_n 1, 1) := by decide +kernel
theorem dX4_put_48 : decode cX4_put 48 = .ok (.iload_n 2, 1) := by decide +kernel
theorem dX4_put_49 : decode cX4_put 49 = .ok (.i2s, 1) := by decide +kernel
theorem dX4_put_50 : decode cX4_put 50 = .ok (.iastore, 1) := by decide +kernel
theorem dX4_put_51 : decode cX4_put 51 = .ok (.goto 10, 3) := by decide +kernel
theorem dX4_put_54 : decode cX4_put 54 = .ok (.aload_n 0, 1) := by decide +kernel
theorem dX4_put_55 : decode cX4_put 55 = .ok (.getfield 9, 3) := by decide +kernel
theorem dX4_put_58 : decode cX4_put 58 = .ok (.iload_n 1, 1) := by decide +kernel
theorem dX4_put_59 : decode cX4_put 59 = .ok (.iload_n 2, 1) := by decide +kernel
theorem dX4_put_60 : decode cX4_put 60 = .ok (.iastore, 1) := by decide +kernel
theorem dX4_put_61 : decode cX4_put 61 = .ok (.return_, 1) := by decide +kernel
theorem dX5_init_0 : decode cX5_init 0 = .ok (.aload_n 0, 1) := by decide +kernel
theorem dX5_init_1 : decode cX5_init 1 = .ok (.invokespecial 1, 3) := by decide +kernel
theorem dX5_init_4 : decode cX5_init 4 = .ok (.aload_n 0, 1) := by decide +kernel
theorem dX5_init_5 : decode cX5_init 5 = .ok (.iconst 0, 1) := by decide +kernel
theorem dX5_init_6 : decode cX5_init 6 = .ok (.putfield 7, 3) := by decide +kernel
theorem dX5_init_9 : decode cX5_init 9 = .ok (.aload_n 0, 1) := by decide +kernel
theorem dX5_init_10 : decode cX5_init 10 = .ok (.iconst 0, 1) := by decide +kernel
theorem dX5_init_11 : decode cX5_init 11 = .ok (.putfield 13, 3) := by decide +kernel
theorem dX5_init_14 : decode cX5_init 14 = .ok (.aload_n 0, 1) := by decide +kernel
theorem dX5_init_15 : decode cX5_init 15 = .ok (.iconst 0, 1) := by decide +kernel
theorem dX5_init_16 : decode cX5_init 16 = .ok (.putfield 16, 3) := by decide +kernel
theorem dX5_init_19 : decode cX5_init 19 = .ok (.return_, 1) := by decide +kernel
theorem dX5_tell_0 : decode cX5_tell 0 = .ok (.aload_n 0, 1) := by decide +kernel
theorem dX5_tell_1 : decode cX5_tell 1 = .ok (.iload_n 1, 1) := by decide +kernel
theorem dX5_tell_2 : decode cX5_tell 2 = .ok (.putfield 7, 3) := by decide +kernel
theorem dX5_tell_5 : decode cX5_tell 5 = .ok (.aload_n 0, 1) := by decide +kernel
theorem dX5_tell_6 : decode cX5_tell 6 = .ok (.iload_n 2, 1) := by decide +kernel
theorem dX5_tell_7 : decode cX5_tell 7 = .ok (.putfield 13, 3) := by decide +kernel
theorem dX5_tell_10 : decode cX5_tell 10 = .ok (.aload_n 0, 1) := by decide +kernel
theorem dX5_tell_11 : decode cX5_tell 11 = .ok (.iload_n 3, 1) := by decide +kernel
theorem dX5_tell_12 : decode cX5_tell 12 = .ok (.putfield 16, 3) := by decide +kernel
theorem dX5_tell_15 : decode cX5_tell 15 = .ok (.return_, 1) := by decide +kernel
theorem dX6_init_0 : decode cX6_init 0 = .ok (.aload_n 0, 1) := by decide +kernel
theorem dX6_init_1 : decode cX6_init 1 = .ok (.invokespecial 3, 3) := by decide +kernel
theorem dX6_init_4 : decode cX6_init 4 = .ok (.aload_n 0, 1) := by decide +kernel
theorem dX6_init_5 : decode cX6_init 5 = .ok (.sipush 400, 3) := by decide +kernel
theorem dX6_init_8 : decode cX6_init 8 = .ok (.newarray .int, 2) := by decide +kernel
theorem dX6_init_10 : decode cX6_init 10 = .ok (.putfield 9, 3) := by decide +kernel
theorem dX6_init_13 : decode cX6_init 13 = .ok (.aload_n 0, 1) := by decide +kernel
theorem dX6_init_14 : decode cX6_init 14 = .ok (.iconst 0, 1) := by decide +kernel
theorem dX6_init_15 : decode cX6_init 15 = .ok (.putfield 15, 3) := by decide +kernel
theorem dX6_init_18 : decode cX6_init 18 = .ok (.return_, 1) := by decide +kernel
theorem dX6_take_0 : decode cX6_take 0 = .ok (.aload_n 0, 1) := by decide +kernel
theorem dX6_take_1 : decode cX6_take 1 = .ok (.getfield 15, 3) := by decide +kernel
theorem dX6_take_4 : decode cX6_take 4 = .ok (.bipush 8, 2) := by decide +kernel
theorem dX6_take_6 : decode cX6_take 6 = .ok (.iadd, 1) := by decide +kernel
theorem dX6_take_7 : decode cX6_take 7 = .ok (.sipush 400, 3) := by decide +kernel
theorem dX6_take_10 : decode cX6_take 10 = .ok (.if_icmp .le 5, 3) := by decide +kernel
theorem dX6_take_13 : decode cX6_take 13 = .ok (.iconst 0, 1) := by decide +kernel
theorem dX6_take_14 : decode cX6_take 14 = .ok (.ireturn, 1) := by decide +kernel
theorem dX6_take_15 : decode cX6_take 15 = .ok (.iconst 0, 1) := by decide +kernel
theorem dX6_take_16 : decode cX6_take 16 = .ok (.istore_n 3, 1) := by decide +kernel
theorem dX6_take_17 : decode cX6_take 17 = .ok (.iload_n 3, 1) := by decide +kernel
theorem dX6_take_18 : decode cX6_take 18 = .ok (.bipush 8, 2) := by decide +kernel
theorem dX6_take_20 : decode cX6_take 20 = .ok (.if_icmp .ge 34, 3) := by decide +kernel
theorem dX6_take_23 : decode cX6_take 23 = .ok (.aload_n 0, 1) := by decide +kernel
theorem dX6_take_24 : decode cX6_take 24 = .ok (.getfield 9, 3) := by decide +kernel
theorem dX6_take_27 : decode cX6_take 27 = .ok (.aload_n 0, 1) := by decide +kernel
theorem dX6_take_28 : decode cX6_take 28 = .ok (.getfield 15, 3) := by decide +kernel
theorem dX6_take_31 : decode cX6_take 31 = .ok (.iload_n 3, 1) := by decide +kernel
theorem dX6_take_32 : decode cX6_take 32 = .ok (.iadd, 1) := by decide +kernel
theorem dX6_take_33 : decode cX6_take 33 = .ok (.lload_n 1, 1) := by decide +kernel
theorem dX6_take_34 : decode cX6_take 34 = .ok (.bipush 56, 2) := by decide +kernel
theorem dX6_take_36 : decode cX6_take 36 = .ok (.bipush 8, 2) := by decide +kernel
theorem dX6_take_38 : decode cX6_take 38 = .ok (.iload_n 3, 1) := by decide +kernel
theorem dX6_take_39 : decode cX6_take 39 = .ok (.imul, 1) := by decide +kernel
theorem dX6_take_40 : decode cX6_take 40 = .ok (.isub, 1) := by decide +kernel
theorem dX6_take_41 : decode cX6_take 41 = .ok (.lushr, 1) := by decide +kernel
theorem dX6_take_42 : decode cX6_take 42 = .ok (.ldc2_w 19, 3) := by decide +kernel
theorem dX6_take_45 : decode cX6_take 45 = .ok (.land, 1) := by decide +kernel
theorem dX6_take_46 : decode cX6_take 46 = .ok (.l2i, 1) := by decide +kernel
theorem dX6_take_47 : decode cX6_take 47 = .ok (.iastore, 1) := by decide +kernel
theorem dX6_take_48 : decode cX6_take 48 = .ok (.iinc 3 1, 3) := by decide +kernel
theorem dX6_take_51 : decode cX6_take 51 = .ok (.goto (-34), 3) := by decide +kernel
theorem dX6_take_54 : decode cX6_take 54 = .ok (.aload_n 0, 1) := by decide +kernel
theorem dX6_take_55 : decode cX6_take 55 = .ok (.dup, 1) := by decide +kernel
theorem dX6_take_56 : decode cX6_take 56 = .ok (.getfield 15, 3) := by decide +kernel
theorem dX6_take_59 : decode cX6_take 59 = .ok (.bipush 8, 2) := by decide +kernel
theorem dX6_take_61 : decode cX6_take 61 = .ok (.iadd, 1) := by decide +kernel
theorem dX6_take_62 : decode cX6_take 62 = .ok (.putfield 15, 3) := by decide +kernel
theorem dX6_take_65 : decode cX6_take 65 = .ok (.iconst 1, 1) := by decide +kernel
theorem dX6_take_66 : decode cX6_take 66 = .ok (.ireturn, 1) := by decide +kernel
theorem dX6_isLetter_0 : decode cX6_isLetter 0 = .ok (.iload_n 1, 1) := by decide +kernel
theorem dX6_isLetter_1 : decode cX6_isLetter 1 = .ok (.aload_n 0, 1) := by decide +kernel
theorem dX6_isLetter_2 : decode cX6_isLetter 2 = .ok (.getfield 15, 3) := by decide +kernel
theorem dX6_isLetter_5 : decode cX6_isLetter 5 = .ok (.if_icmp .ge 29, 3) := by decide +kernel
theorem dX6_isLetter_8 : decode cX6_isLetter 8 = .ok (.aload_n 0, 1) := by decide +kernel
theorem dX6_isLetter_9 : decode cX6_isLetter 9 = .ok (.getfield 9, 3) := by decide +kernel
theorem dX6_isLetter_12 : decode cX6_isLetter 12 = .ok (.iload_n 1, 1) := by decide +kernel
theorem dX6_isLetter_13 : decode cX6_isLetter 13 = .ok (.iaload, 1) := by decide +kernel
theorem dX6_isLetter_14 : decode cX6_isLetter 14 = .ok (.bipush 97, 2) := by decide +kernel
theorem dX6_isLetter_16 : decode cX6_isLetter 16 = .ok (.if_icmp .lt 18, 3) := by decide +kernel
theorem dX6_isLetter_19 : decode cX6_isLetter 19 = .ok (.aload_n 0, 1) := by decide +kernel
theorem dX6_isLetter_20 : decode cX6_isLetter 20 = .ok (.getfield 9, 3) := by decide +kernel
theorem dX6_isLetter_23 : decode cX6_isLetter 23 = .ok (.iload_n 1, 1) := by decide +kernel
theorem dX6_isLetter_24 : decode cX6_isLetter 24 = .ok (.iaload, 1) := by decide +kernel
theorem dX6_isLetter_25 : decode cX6_isLetter 25 = .ok (.bipush 122, 2) := by decide +kernel
theorem dX6_isLetter_27 : decode cX6_isLetter 27 = .ok (.if_icmp .gt 7, 3) := by decide +kernel
theorem dX6_isLetter_30 : decode cX6_isLetter 30 = .ok (.iconst 1, 1) := by decide +kernel
theorem dX6_isLetter_31 : decode cX6_isLetter 31 = .ok (.goto 4, 3) := by decide +kernel
theorem dX6_isLetter_34 : decode cX6_isLetter 34 = .ok (.iconst 0, 1) := by decide +kernel
theorem dX6_isLetter_35 : decode cX6_isLetter 35 = .ok (.ireturn, 1) := by decide +kernel
theorem dX6_isDigit_0 : decode cX6_isDigit 0 = .ok (.iload_n 1, 1) := by decide +kernel
theorem dX6_isDigit_1 : decode cX6_isDigit 1 = .ok (.aload_n 0, 1) := by decide +kernel
theorem dX6_isDigit_2 : decode cX6_isDigit 2 = .ok (.getfield 15, 3) := by decide +kernel
theorem dX6_isDigit_5 : decode cX6_isDigit 5 = .ok (.if_icmp .ge 29, 3) := by decide +kernel
theorem dX6_isDigit_8 : decode cX6_isDigit 8 = .ok (.aload_n 0, 1) := by decide +kernel
theorem dX6_isDigit_9 : decode cX6_isDigit 9 = .ok (.getfield 9, 3) := by decide +kernel
theorem dX6_isDigit_12 : decode cX6_isDigit 12 = .ok (.iload_n 1, 1) := by decide +kernel
theorem dX6_isDigit_13 : decode cX6_isDigit 13 = .ok (.iaload, 1) := by decide +kernel
theorem dX6_isDigit_14 : decode cX6_isDigit 14 = .ok (.bipush 48, 2) := by decide +kernel
theorem dX6_isDigit_16 : decode cX6_isDigit 16 = .ok (.if_icmp .lt 18, 3) := by decide +kernel
theorem dX6_isDigit_19 : decode cX6_isDigit 19 = .ok (.aload_n 0, 1) := by decide +kernel
theorem dX6_isDigit_20 : decode cX6_isDigit 20 = .ok (.getfield 9, 3) := by decide +kernel
theorem dX6_isDigit_23 : decode cX6_isDigit 23 = .ok (.iload_n 1, 1) := by decide +kernel
theorem dX6_isDigit_24 : decode cX6_isDigit 24 = .ok (.iaload, 1) := by decide +kernel
theorem dX6_isDigit_25 : decode cX6_isDigit 25 = .ok (.bipush 57, 2) := by decide +kernel
theorem dX6_isDigit_27 : decode cX6_isDigit 27 = .ok (.if_icmp .gt 7, 3) := by decide +kernel
theorem dX6_isDigit_30 : decode cX6_isDigit 30 = .ok (.iconst 1, 1) := by decide +kernel
theorem dX6_isDigit_31 : decode cX6_isDigit 31 = .ok (.goto 4, 3) := by decide +kernel
theorem dX6_isDigit_34 : decode cX6_isDigit 34 = .ok (.iconst 0, 1) := by decide +kernel
theorem dX6_isDigit_35 : decode cX6_isDigit 35 = .ok (.ireturn, 1) := by decide +kernel
theorem dX6_isSign_0 : decode cX6_isSign 0 = .ok (.iload_n 1, 1) := by decide +kernel
theorem dX6_isSign_1 : decode cX6_isSign 1 = .ok (.aload_n 0, 1) := by decide +kernel
theorem dX6_isSign_2 : decode cX6_isSign 2 = .ok (.getfield 15, 3) := by decide +kernel
theorem dX6_isSign_5 : decode cX6_isSign 5 = .ok (.if_icmp .ge 17, 3) := by decide +kernel
theorem dX6_isSign_8 : decode cX6_isSign 8 = .ok (.aload_n 0, 1) := by decide +kernel
theorem dX6_isSign_9 : decode cX6_isSign 9 = .ok (.getfield 9, 3) := by decide +kernel
theorem dX6_isSign_12 : decode cX6_isSign 12 = .ok (.iload_n 1, 1) := by decide +kernel
theorem dX6_isSign_13 : decode cX6_isSign 13 = .ok (.iaload, 1) := by decide +kernel
theorem dX6_isSign_14 : decode cX6_isSign 14 = .ok (.iload_n 2, 1) := by decide +kernel
theorem dX6_isSign_15 : decode cX6_isSign 15 = .ok (.if_icmp .ne 7, 3) := by decide +kernel
theorem dX6_isSign_18 : decode cX6_isSign 18 = .ok (.iconst 1, 1) := by decide +kernel
theorem dX6_isSign_19 : decode cX6_isSign 19 = .ok (.goto 4, 3) := by decide +kernel
theorem dX6_isSign_22 : decode cX6_isSign 22 = .ok (.iconst 0, 1) := by decide +kernel
theorem dX6_isSign_23 : decode cX6_isSign 23 = .ok (.ireturn, 1) := by decide +kernel
theorem dX7_init_0 : decode cX7_init 0 = .ok (.aload_n 0, 1) := by decide +kernel
theorem dX7_init_1 : decode cX7_init 1 = .ok (.invokespecial 3, 3) := by decide +kernel
theorem dX7_init_4 : decode cX7_init 4 = .ok (.aload_n 0, 1) := by decide +kernel
theorem dX7_init_5 : decode cX7_init 5 = .ok (.iconst 0, 1) := by decide +kernel
theorem dX7_init_6 : decode cX7_init 6 = .ok (.putfield 9, 3) := by decide +kernel
theorem dX7_init_9 : decode cX7_init 9 = .ok (.aload_n 0, 1) := by decide +kernel
theorem dX7_init_10 : decode cX7_init 10 = .ok (.iconst 0, 1) := by decide +kernel
theorem dX7_init_11 : decode cX7_init 11 = .ok (.putfield 15, 3) := by decide +kernel
theorem dX7_init_14 : decode cX7_init 14 = .ok (.aload_n 0, 1) := by decide +kernel
theorem dX7_init_15 : decode cX7_init 15 = .ok (.iconst 2, 1) := by decide +kernel
theorem dX7_init_16 : decode cX7_init 16 = .ok (.putfield 18, 3) := by decide +kernel
theorem dX7_init_19 : decode cX7_init 19 = .ok (.aload_n 0, 1) := by decide +kernel
theorem dX7_init_20 : decode cX7_init 20 = .ok (.iconst 0, 1) := by decide +kernel
theorem dX7_init_21 : decode cX7_init 21 = .ok (.putfield 21, 3) := by decide +kernel
theorem dX7_init_24 : decode cX7_init 24 = .ok (.aload_n 0, 1) := by decide +kernel
theorem dX7_init_25 : decode cX7_init 25 = .ok (.iconst 0, 1) := by decide +kernel
theorem dX7_init_26 : decode cX7_init 26 = .ok (.putfield 24, 3) := by decide +kernel
theorem dX7_init_29 : decode cX7_init 29 = .ok (.return_, 1) := by decide +kernel
theorem dX7_become_0 : decode cX7_become 0 = .ok (.aload_n 0, 1) := by decide +kernel
theorem dX7_become_1 : decode cX7_become 1 = .ok (.aload_n 1, 1) := by decide +kernel
theorem dX7_become_2 : decode cX7_become 2 = .ok (.getfield 9, 3) := by decide +kernel
theorem dX7_become_5 : decode cX7_become 5 = .ok (.putfield 9, 3) := by decide +kernel
theorem dX7_become_8 : decode cX7_become 8 = .ok (.aload_n 0, 1) := by decide +kernel
theorem dX7_become_9 : decode cX7_become 9 = .ok (.aload_n 1, 1) := by decide +kernel
theorem dX7_become_10 : decode cX7_become 10 = .ok (.getfield 15, 3) := by decide +kernel
theorem dX7_become_13 : decode cX7_become 13 = .ok (.putfield 15, 3) := by decide +kernel
theorem dX7_become_16 : decode cX7_become 16 = .ok (.aload_n 0, 1) := by decide +kernel
theorem dX7_become_17 : decode cX7_become 17 = .ok (.aload_n 1, 1) := by decide +kernel
theorem dX7_become_18 : decode cX7_become 18 = .ok (.getfield 18, 3) := by decide +kernel
theorem dX7_become_21 : decode cX7_become 21 = .ok (.putfield 18, 3) := by decide +kernel
theorem dX7_become_24 : decode cX7_become 24 = .ok (.aload_n 0, 1) := by decide +kernel
theorem dX7_become_25 : decode cX7_become 25 = .ok (.aload_n 1, 1) := by decide +kernel
theorem dX7_become_26 : decode cX7_become 26 = .ok (.getfield 21, 3) := by decide +kernel
theorem dX7_become_29 : decode cX7_become 29 = .ok (.putfield 21, 3) := by decide +kernel
theorem dX7_become_32 : decode cX7_become 32 = .ok (.aload_n 0, 1) := by decide +kernel
theorem dX7_become_33 : decode cX7_become 33 = .ok (.aload_n 1, 1) := by decide +kernel
theorem dX7_become_34 : decode cX7_become 34 = .ok (.getfield 24, 3) := by decide +kernel
theorem dX7_become_37 : decode cX7_become 37 = .ok (.putfield 24, 3) := by decide +kernel
theorem dX7_become_40 : decode cX7_become 40 = .ok (.return_, 1) := by decide +kernel
theorem dX8_init_0 : decode cX8_init 0 = .ok (.aload_n 0, 1) := by decide +kernel
theorem dX8_init_1 : decode cX8_init 1 = .ok (.invokespecial 3, 3) := by decide +kernel
theorem dX8_init_4 : decode cX8_init 4 = .ok (.aload_n 0, 1) := by decide +kernel
theorem dX8_init_5 : decode cX8_init 5 = .ok (.new 9, 3) := by decide +kernel
theorem dX8_init_8 : decode cX8_init 8 = .ok (.dup, 1) := by decide +kernel
theorem dX8_init_9 : decode cX8_init 9 = .ok (.invokespecial 11, 3) := by decide +kernel
theorem dX8_init_12 : decode cX8_init 12 = .ok (.putfield 12, 3) := by decide +kernel
theorem dX8_init_15 : decode cX8_init 15 = .ok (.aload_n 0, 1) := by decide +kernel
theorem dX8_init_16 : decode cX8_init 16 = .ok (.new 16, 3) := by decide +kernel
theorem dX8_init_19 : decode cX8_init 19 = .ok (.dup, 1) := by decide +kernel
theorem dX8_init_20 : decode cX8_init 20 = .ok (.invokespecial 18, 3) := by decide +kernel
theorem dX8_init_23 : decode cX8_init 23 = .ok (.putfield 19, 3) := by decide +kernel
theorem dX8_init_26 : decode cX8_init 26 = .ok (.aload_n 0, 1) := by decide +kernel
theorem dX8_init_27 : decode cX8_init 27 = .ok (.new 16, 3) := by decide +kernel
theorem dX8_init_30 : decode cX8_init 30 = .ok (.dup, 1) := by decide +kernel
theorem dX8_init_31 : decode cX8_init 31 = .ok (.invokespecial 18, 3) := by decide +kernel
theorem dX8_init_34 : decode cX8_init 34 = .ok (.putfield 23, 3) := by decide +kernel
theorem dX8_init_37 : decode cX8_init 37 = .ok (.aload_n 0, 1) := by decide +kernel
theorem dX8_init_38 : decode cX8_init 38 = .ok (.iconst 2, 1) := by decide +kernel
theorem dX8_init_39 : decode cX8_init 39 = .ok (.anewarray 16, 3) := by decide +kernel
theorem dX8_init_42 : decode cX8_init 42 = .ok (.putfield 26, 3) := by decide +kernel
theorem dX8_init_45 : decode cX8_init 45 = .ok (.aload_n 0, 1) := by decide +kernel
theorem dX8_init_46 : decode cX8_init 46 = .ok (.iconst 2, 1) := by decide +kernel
theorem dX8_init_47 : decode cX8_init 47 = .ok (.newarray .boolean, 2) := by decide +kernel
theorem dX8_init_49 : decode cX8_init 49 = .ok (.putfield 30, 3) := by decide +kernel
theorem dX8_init_52 : decode cX8_init 52 = .ok (.aload_n 0, 1) := by decide +kernel
theorem dX8_init_53 : decode cX8_init 53 = .ok (.iconst 4, 1) := by decide +kernel
theorem dX8_init_54 : decode cX8_init 54 = .ok (.anewarray 34, 3) := by decide +kernel
theorem dX8_init_57 : decode cX8_init 57 = .ok (.putfield 36, 3) := by decide +kernel
theorem dX8_init_60 : decode cX8_init 60 = .ok (.aload_n 0, 1) := by decide +kernel
theorem dX8_init_61 : decode cX8_init 61 = .ok (.new 40, 3) := by decide +kernel
theorem dX8_init_64 : decode cX8_init 64 = .ok (.dup, 1) := by decide +kernel
theorem dX8_init_65 : decode cX8_init 65 = .ok (.invokespecial 42, 3) := by decide +kernel
theorem dX8_init_68 : decode cX8_init 68 = .ok (.putfield 43, 3) := by decide +kernel
theorem dX8_init_71 : decode cX8_init 71 = .ok (.aload_n 0, 1) := by decide +kernel
theorem dX8_init_72 : decode cX8_init 72 = .ok (.new 47, 3) := by decide +kernel
theorem dX8_init_75 : decode cX8_init 75 = .ok (.dup, 1) := by decide +kernel
theorem dX8_init_76 : decode cX8_init 76 = .ok (.invokespecial 49, 3) := by decide +kernel
theorem dX8_init_79 : decode cX8_init 79 = .ok (.putfield 50, 3) := by decide +kernel
theorem dX8_init_82 : decode cX8_init 82 = .ok (.aload_n 0, 1) := by decide +kernel
theorem dX8_init_83 : decode cX8_init 83 = .ok (.bipush 6, 2) := by decide +kernel
theorem dX8_init_85 : decode cX8_init 85 = .ok (.newarray .int, 2) := by decide +kernel
theorem dX8_init_87 : decode cX8_init 87 = .ok (.putfield 54, 3) := by decide +kernel
theorem dX8_init_90 : decode cX8_init 90 = .ok (.aload_n 0, 1) := by decide +kernel
theorem dX8_init_91 : decode cX8_init 91 = .ok (.bipush 6, 2) := by decide +kernel
theorem dX8_init_93 : decode cX8_init 93 = .ok (.newarray .int, 2) := by decide +kernel
theorem dX8_init_95 : decode cX8_init 95 = .ok (.putfield 58, 3) := by decide +kernel
theorem dX8_init_98 : decode cX8_init 98 = .ok (.aload_n 0, 1) := by decide +kernel
theorem dX8_init_99 : decode cX8_init 99 = .ok (.bipush 9, 2) := by decide +kernel
theorem dX8_init_101 : decode cX8_init 101 = .ok (.newarray .int, 2) := by decide +kernel
theorem dX8_init_103 : decode cX8_init 103 = .ok (.putfield 61, 3) := by decide +kernel
theorem dX8_init_106 : decode cX8_init 106 = .ok (.aload_n 0, 1) := by decide +kernel
theorem dX8_init_107 : decode cX8_init 107 = .ok (.iconst 0, 1) := by decide +kernel
theorem dX8_init_108 : decode cX8_init 108 = .ok (.putfield 64, 3) := by decide +kernel
theorem dX8_init_111 : decode cX8_init 111 = .ok (.aload_n 0, 1) := by decide +kernel
theorem dX8_init_112 : decode cX8_init 112 = .ok (.iconst 0, 1) := by decide +kernel
theorem dX8_init_113 : decode cX8_init 113 = .ok (.putfield 68, 3) := by decide +kernel
theorem dX8_init_116 : decode cX8_init 116 = .ok (.iconst 0, 1) := by decide +kernel
theorem dX8_init_117 : decode cX8_init 117 = .ok (.istore_n 1, 1) := by decide +kernel
theorem dX8_init_118 : decode cX8_init 118 = .ok (.iload_n 1, 1) := by decide +kernel
theorem dX8_init_119 : decode cX8_init 119 = .ok (.aload_n 0, 1) := by decide +kernel
theorem dX8_init_120 : decode cX8_init 120 = .ok (.getfield 26, 3) := by decide +kernel
theorem dX8_init_123 : decode cX8_init 123 = .ok (.arraylength, 1) := by decide +kernel
theorem dX8_init_124 : decode cX8_init 124 = .ok (.if_icmp .ge 22, 3) := by decide +kernel
theorem dX8_init_127 : decode cX8_init 127 = .ok (.aload_n 0, 1) := by decide +kernel
theorem dX8_init_128 : decode cX8_init 128 = .ok (.getfield 26, 3) := by decide +kernel
theorem dX8_init_131 : decode cX8_init 131 = .ok (.iload_n 1, 1) := by decide +kernel
theorem dX8_init_132 : decode cX8_init 132 = .ok (.new 16, 3) := by decide +kernel
theorem dX8_init_135 : decode cX8_init 135 = .ok (.dup, 1) := by decide +kernel
theorem dX8_init_136 : decode cX8_init 136 = .ok (.invokespecial 18, 3) := by decide +kernel
theorem dX8_init_139 : decode cX8_init 139 = .ok (.aastore, 1) := by decide +kernel
theorem dX8_init_140 : decode cX8_init 140 = .ok (.iinc 1 1, 3) := by decide +kernel
theorem dX8_init_143 : decode cX8_init 143 = .ok (.goto (-25), 3) := by decide +kernel
theorem dX8_init_146 : decode cX8_init 146 = .ok (.iconst 0, 1) := by decide +kernel
theorem dX8_init_147 : decode cX8_init 147 = .ok (.istore_n 1, 1) := by decide +kernel
theorem dX8_init_148 : decode cX8_init 148 = .ok (.iload_n 1, 1) := by decide +kernel
theorem dX8_init_149 : decode cX8_init 149 = .ok (.aload_n 0, 1) := by decide +kernel
theorem dX8_init_150 : decode cX8_init 150 = .ok (.getfield 36, 3) := by decide +kernel
theorem dX8_init_153 : decode cX8_init 153 = .ok (.arraylength, 1) := by decide +kernel
theorem dX8_init_154 : decode cX8_init 154 = .ok (.if_icmp .ge 22, 3) := by decide +kernel
theorem dX8_init_157 : decode cX8_init 157 = .ok (.aload_n 0, 1) := by decide +kernel
theorem dX8_init_158 : decode cX8_init 158 = .ok (.getfield 36, 3) := by decide +kernel
theorem dX8_init_161 : decode cX8_init 161 = .ok (.iload_n 1, 1) := by decide +kernel
theorem dX8_init_162 : decode cX8_init 162 = .ok (.new 34, 3) := by decide +kernel
theorem dX8_init_165 : decode cX8_init 165 = .ok (.dup, 1) := by decide +kernel
theorem dX8_init_166 : decode cX8_init 166 = .ok (.invokespecial 71, 3) := by decide +kernel
theorem dX8_init_169 : decode cX8_init 169 = .ok (.aastore, 1) := by decide +kernel
theorem dX8_init_170 : decode cX8_init 170 = .ok (.iinc 1 1, 3) := by decide +kernel
theorem dX8_init_173 : decode cX8_init 173 = .ok (.goto (-25), 3) := by decide +kernel
theorem dX8_init_176 : decode cX8_init 176 = .ok (.return_, 1) := by decide +kernel
theorem dX8_feed_0 : decode cX8_feed 0 = .ok (.aload_n 0, 1) := by decide +kernel
theorem dX8_feed_1 : decode cX8_feed 1 = .ok (.getfield 12, 3) := by decide +kernel
theorem dX8_feed_4 : decode cX8_feed 4 = .ok (.lload_n 1, 1) := by decide +kernel
theorem dX8_feed_5 : decode cX8_feed 5 = .ok (.invokevirtual 72, 3) := by decide +kernel
theorem dX8_feed_8 : decode cX8_feed 8 = .ok (.ifCond .eq 13, 3) := by decide +kernel
theorem dX8_feed_11 : decode cX8_feed 11 = .ok (.aload_n 0, 1) := by decide +kernel
theorem dX8_feed_12 : decode cX8_feed 12 = .ok (.getfield 12, 3) := by decide +kernel
theorem dX8_feed_15 : decode cX8_feed 15 = .ok (.getfield 76, 3) := by decide +kernel
theorem dX8_feed_18 : decode cX8_feed 18 = .ok (.goto 5, 3) := by decide +kernel
theorem dX8_feed_21 : decode cX8_feed 21 = .ok (.bipush (-3), 2) := by decide +kernel
theorem dX8_feed_23 : decode cX8_feed 23 = .ok (.ireturn, 1) := by decide +kernel
theorem dX8_end_0 : decode cX8_end 0 = .ok (.iload_n 1, 1) := by decide +kernel
theorem dX8_end_1 : decode cX8_end 1 = .ok (.ifCond .lt 14, 3) := by decide +kernel
theorem dX8_end_4 : decode cX8_end 4 = .ok (.iload_n 1, 1) := by decide +kernel
theorem dX8_end_5 : decode cX8_end 5 = .ok (.aload_n 0, 1) := by decide +kernel
theorem dX8_end_6 : decode cX8_end 6 = .ok (.getfield 12, 3) := by decide +kernel
theorem dX8_end_9 : decode cX8_end 9 = .ok (.getfield 76, 3) := by decide +kernel
theorem dX8_end_12 : decode cX8_end 12 = .ok (.if_icmp .le 5, 3) := by decide +kernel
theorem dX8_end_15 : decode cX8_end 15 = .ok (.iconst (-1), 1) := by decide +kernel
theorem dX8_end_16 : decode cX8_end 16 = .ok (.ireturn, 1) := by decide +kernel
theorem dX8_end_17 : decode cX8_end 17 = .ok (.aload_n 0, 1) := by decide +kernel
theorem dX8_end_18 : decode cX8_end 18 = .ok (.getfield 12, 3) := by decide +kernel
theorem dX8_end_21 : decode cX8_end 21 = .ok (.getfield 76, 3) := by decide +kernel
theorem dX8_end_24 : decode cX8_end 24 = .ok (.istore_n 2, 1) := by decide +kernel
theorem dX8_end_25 : decode cX8_end 25 = .ok (.aload_n 0, 1) := by decide +kernel
theorem dX8_end_26 : decode cX8_end 26 = .ok (.getfield 12, 3) := by decide +kernel
theorem dX8_end_29 : decode cX8_end 29 = .ok (.iload_n 1, 1) := by decide +kernel
theorem dX8_end_30 : decode cX8_end 30 = .ok (.putfield 76, 3) := by decide +kernel
theorem dX8_end_33 : decode cX8_end 33 = .ok (.iload_n 2, 1) := by decide +kernel
theorem dX8_end_34 : decode cX8_end 34 = .ok (.ireturn, 1) := by decide +kernel
theorem dX8_text_0 : decode cX8_text 0 = .ok (.new 79, 3) := by decide +kernel
theorem dX8_text_3 : decode cX8_text 3 = .ok (.dup, 1) := by decide +kernel
theorem dX8_text_4 : decode cX8_text 4 = .ok (.aload_n 0, 1) := by decide +kernel
theorem dX8_text_5 : decode cX8_text 5 = .ok (.getfield 12, 3) := by decide +kernel
theorem dX8_text_8 : decode cX8_text 8 = .ok (.aload_n 0, 1) := by decide +kernel
theorem dX8_text_9 : decode cX8_text 9 = .ok (.getfield 23, 3) := by decide +kernel
theorem dX8_text_12 : decode cX8_text 12 = .ok (.invokespecial 81, 3) := by decide +kernel
theorem dX8_text_15 : decode cX8_text 15 = .ok (.astore_n 1, 1) := by decide +kernel
theorem dX8_text_16 : decode cX8_text 16 = .ok (.aload_n 1, 1) := by decide +kernel
theorem dX8_text_17 : decode cX8_text 17 = .ok (.invokevirtual 84, 3) := by decide +kernel
theorem dX8_text_20 : decode cX8_text 20 = .ok (.istore_n 2, 1) := by decide +kernel
theorem dX8_text_21 : decode cX8_text 21 = .ok (.aload_n 0, 1) := by decide +kernel
theorem dX8_text_22 : decode cX8_text 22 = .ok (.getfield 12, 3) := by decide +kernel
theorem dX8_text_25 : decode cX8_text 25 = .ok (.iconst 0, 1) := by decide +kernel
theorem dX8_text_26 : decode cX8_text 26 = .ok (.putfield 76, 3) := by decide +kernel
theorem dX8_text_29 : decode cX8_text 29 = .ok (.aload_n 0, 1) := by decide +kernel
theorem dX8_text_30 : decode cX8_text 30 = .ok (.aload_n 1, 1) := by decide +kernel
theorem dX8_text_31 : decode cX8_text 31 = .ok (.getfield 88, 3) := by decide +kernel
theorem dX8_text_34 : decode cX8_text 34 = .ok (.putfield 64, 3) := by decide +kernel
theorem dX8_text_37 : decode cX8_text 37 = .ok (.aload_n 0, 1) := by decide +kernel
theorem dX8_text_38 : decode cX8_text 38 = .ok (.getfield 64, 3) := by decide +kernel
theorem dX8_text_41 : decode cX8_text 41 = .ok (.ifCond .eq 11, 3) := by decide +kernel
theorem dX8_text_44 : decode cX8_text 44 = .ok (.bipush (-10), 2) := by decide +kernel
theorem dX8_text_46 : decode cX8_text 46 = .ok (.aload_n 1, 1) := by decide +kernel
theorem dX8_text_47 : decode cX8_text 47 = .ok (.getfield 91, 3) := by decide +kernel
theorem dX8_text_50 : decode cX8_text 50 = .ok (.isub, 1) := by decide +kernel
theorem dX8_text_51 : decode cX8_text 51 = .ok (.ireturn, 1) := by decide +kernel
theorem dX8_text_52 : decode cX8_text 52 = .ok (.aload_n 0, 1) := by decide +kernel
theorem dX8_text_53 : decode cX8_text 53 = .ok (.getfield 19, 3) := by decide +kernel
theorem dX8_text_56 : decode cX8_text 56 = .ok (.aload_n 0, 1) := by decide +kernel
theorem dX8_text_57 : decode cX8_text 57 = .ok (.getfield 23, 3) := by decide +kernel
theorem dX8_text_60 : decode cX8_text 60 = .ok (.invokevirtual 94, 3) := by decide +kernel
theorem dX8_text_63 : decode cX8_text 63 = .ok (.iconst 0, 1) := by decide +kernel
theorem dX8_text_64 : decode cX8_text 64 = .ok (.istore_n 3, 1) := by decide +kernel
theorem dX8_text_65 : decode cX8_text 65 = .ok (.iload_n 3, 1) := by decide +kernel
theorem dX8_text_66 : decode cX8_text 66 = .ok (.aload_n 0, 1) := by decide +kernel
theorem dX8_text_67 : decode cX8_text 67 = .ok (.getfield 30, 3) := by decide +kernel
theorem dX8_text_70 : decode cX8_text 70 = .ok (.arraylength, 1) := by decide +kernel
theorem dX8_text_71 : decode cX8_text 71 = .ok (.if_icmp .ge 16, 3) := by decide +kernel
theorem dX8_text_74 : decode cX8_text 74 = .ok (.aload_n 0, 1) := by decide +kernel
theorem dX8_text_75 : decode cX8_text 75 = .ok (.getfield 30, 3) := by decide +kernel
theorem dX8_text_78 : decode cX8_text 78 = .ok (.iload_n 3, 1) := by decide +kernel
theorem dX8_text_79 : decode cX8_text 79 = .ok (.iconst 0, 1) := by decide +kernel
theorem dX8_text_80 : decode cX8_text 80 = .ok (.bastore, 1) := by decide +kernel
theorem dX8_text_81 : decode cX8_text 81 = .ok (.iinc 3 1, 3) := by decide +kernel
theorem dX8_text_84 : decode cX8_text 84 = .ok (.goto (-19), 3) := by decide +kernel
theorem dX8_text_87 : decode cX8_text 87 = .ok (.iload_n 2, 1) := by decide +kernel
theorem dX8_text_88 : decode cX8_text 88 = .ok (.ireturn, 1) := by decide +kernel
theorem dX8_fault_0 : decode cX8_fault 0 = .ok (.aload_n 0, 1) := by decide +kernel
theorem dX8_fault_1 : decode cX8_fault 1 = .ok (.getfield 64, 3) := by decide +kernel
theorem dX8_fault_4 : decode cX8_fault 4 = .ok (.ireturn, 1) := by decide +kernel
theorem dX8_rule_0 : decode cX8_rule 0 = .ok (.iload_n 1, 1) := by decide +kernel
theorem dX8_rule_1 : decode cX8_rule 1 = .ok (.tableswitch 87 0 5 #[39, 47, 55, 63, 71, 79], 39) := by decide +kernel
theorem dX8_rule_40 : decode cX8_rule 40 = .ok (.aload_n 0, 1) := by decide +kernel
theorem dX8_rule_41 : decode cX8_rule 41 = .ok (.getfield 19, 3) := by decide +kernel
theorem dX8_rule_44 : decode cX8_rule 44 = .ok (.getfield 98, 3) := by decide +kernel
theorem dX8_rule_47 : decode cX8_rule 47 = .ok (.ireturn, 1) := by decide +kernel
theorem dX8_rule_48 : decode cX8_rule 48 = .ok (.aload_n 0, 1) := by decide +kernel
theorem dX8_rule_49 : decode cX8_rule 49 = .ok (.getfield 19, 3) := by decide +kernel
theorem dX8_rule_52 : decode cX8_rule 52 = .ok (.getfield 101, 3) := by decide +kernel
theorem dX8_rule_55 : decode cX8_rule 55 = .ok (.ireturn, 1) := by decide +kernel
theorem dX8_rule_56 : decode cX8_rule 56 = .ok (.aload_n 0, 1) := by decide +kernel
theorem dX8_rule_57 : decode cX8_rule 57 = .ok (.getfield 19, 3) := by decide +kernel
theorem dX8_rule_60 : decode cX8_rule 60 = .ok (.getfield 104, 3) := by decide +kernel
theorem dX8_rule_63 : decode cX8_rule 63 = .ok (.ireturn, 1) := by decide +kernel
theorem dX8_rule_64 : decode cX8_rule 64 = .ok (.aload_n 0, 1) := by decide +kernel
theorem dX8_rule_65 : decode cX8_rule 65 = .ok (.getfield 19, 3) := by decide +kernel
theorem dX8_rule_68 : decode cX8_rule 68 = .ok (.getfield 107, 3) := by decide +kernel
theorem dX8_rule_71 : decode cX8_rule 71 = .ok (.ireturn, 1) := by decide +kernel
theorem dX8_rule_72 : decode cX8_rule 72 = .ok (.aload_n 0, 1) := by decide +kernel
theorem dX8_rule_73 : decode cX8_rule 73 = .ok (.getfield 19, 3) := by decide +kernel
theorem dX8_rule_76 : decode cX8_rule 76 = .ok (.getfield 110, 3) := by decide +kernel
theorem dX8_rule_79 : decode cX8_rule 79 = .ok (.ireturn, 1) := by decide +kernel
theorem dX8_rule_80 : decode cX8_rule 80 = .ok (.aload_n 0, 1) := by decide +kernel
theorem dX8_rule_81 : decode cX8_rule 81 = .ok (.getfield 19, 3) := by decide +kernel
theorem dX8_rule_84 : decode cX8_rule 84 = .ok (.getfield 113, 3) := by decide +kernel
theorem dX8_rule_87 : decode cX8_rule 87 = .ok (.ireturn, 1) := by decide +kernel
theorem dX8_rule_88 : decode cX8_rule 88 = .ok (.iconst (-1), 1) := by decide +kernel
theorem dX8_rule_89 : decode cX8_rule 89 = .ok (.ireturn, 1) := by decide +kernel
theorem dX8_figure_0 : decode cX8_figure 0 = .ok (.aload_n 0, 1) := by decide +kernel
theorem dX8_figure_1 : decode cX8_figure 1 = .ok (.iload_n 1, 1) := by decide +kernel
theorem dX8_figure_2 : decode cX8_figure 2 = .ok (.invokevirtual 116, 3) := by decide +kernel
theorem dX8_figure_5 : decode cX8_figure 5 = .ok (.ifCond .ne 5, 3) := by decide +kernel
theorem dX8_figure_8 : decode cX8_figure 8 = .ok (.iconst (-1), 1) := by decide +kernel
theorem dX8_figure_9 : decode cX8_figure 9 = .ok (.ireturn, 1) := by decide +kernel
theorem dX8_figure_10 : decode cX8_figure 10 = .ok (.aload_n 0, 1) := by decide +kernel
theorem dX8_figure_11 : decode cX8_figure 11 = .ok (.getfield 19, 3) := by decide +kernel
theorem dX8_figure_14 : decode cX8_figure 14 = .ok (.getfield 120, 3) := by decide +kernel
theorem dX8_figure_17 : decode cX8_figure 17 = .ok (.iload_n 1, 1) := by decide +kernel
theorem dX8_figure_18 : decode cX8_figure 18 = .ok (.aaload, 1) := by decide +kernel
theorem dX8_figure_19 : decode cX8_figure 19 = .ok (.astore_n 3, 1) := by decide +kernel
theorem dX8_figure_20 : decode cX8_figure 20 = .ok (.iload_n 2, 1) := by decide +kernel
theorem dX8_figure_21 : decode cX8_figure 21 = .ok (.tableswitch 102 0 6 #[43, 48, 53, 58, 63, 80, 97], 43) := by decide +kernel
theorem dX8_figure_64 : decode cX8_figure 64 = .ok (.aload_n 3, 1) := by decide +kernel
theorem dX8_figure_65 : decode cX8_figure 65 = .ok (.invokevirtual 124, 3) := by decide +kernel
theorem dX8_figure_68 : decode cX8_figure 68 = .ok (.ireturn, 1) := by decide +kernel
theorem dX8_figure_69 : decode cX8_figure 69 = .ok (.aload_n 3, 1) := by decide +kernel
theorem dX8_figure_70 : decode cX8_figure 70 = .ok (.getfield 127, 3) := by decide +kernel
theorem dX8_figure_73 : decode cX8_figure 73 = .ok (.ireturn, 1) := by decide +kernel
theorem dX8_figure_74 : decode cX8_figure 74 = .ok (.aload_n 3, 1) := by decide +kernel
theorem dX8_figure_75 : decode cX8_figure 75 = .ok (.getfield 130, 3) := by decide +kernel
theorem dX8_figure_78 : decode cX8_figure 78 = .ok (.ireturn, 1) := by decide +kernel
theorem dX8_figure_79 : decode cX8_figure 79 = .ok (.aload_n 3, 1) := by decide +kernel
theorem dX8_figure_80 : decode cX8_figure 80 = .ok (.getfield 133, 3) := by decide +kernel
theorem dX8_figure_83 : decode cX8_figure 83 = .ok (.ireturn, 1) := by decide +kernel
theorem dX8_figure_84 : decode cX8_figure 84 = .ok (.aload_n 3, 1) := by decide +kernel
theorem dX8_figure_85 : decode cX8_figure 85 = .ok (.getfield 136, 3) := by decide +kernel
theorem dX8_figure_88 : decode cX8_figure 88 = .ok (.ifCond .le 10, 3) := by decide +kernel
theorem dX8_figure_91 : decode cX8_figure 91 = .ok (.aload_n 3, 1) := by decide +kernel
theorem dX8_figure_92 : decode cX8_figure 92 = .ok (.getfield 136, 3) := by decide +kernel
theorem dX8_figure_95 : decode cX8_figure 95 = .ok (.goto 5, 3) := by decide +kernel
theorem dX8_figure_98 : decode cX8_figure 98 = .ok (.bipush (-4), 2) := by decide +kernel
theorem dX8_figure_100 : decode cX8_figure 100 = .ok (.ireturn, 1) := by decide +kernel
theorem dX8_figure_101 : decode cX8_figure 101 = .ok (.aload_n 3, 1) := by decide +kernel
theorem dX8_figure_102 : decode cX8_figure 102 = .ok (.getfield 139, 3) := by decide +kernel
theorem dX8_figure_105 : decode cX8_figure 105 = .ok (.ifCond .le 10, 3) := by decide +kernel
theorem dX8_figure_108 : decode cX8_figure 108 = .ok (.aload_n 3, 1) := by decide +kernel
theorem dX8_figure_109 : decode cX8_figure 109 = .ok (.getfield 139, 3) := by decide +kernel
theorem dX8_figure_112 : decode cX8_figure 112 = .ok (.goto 5, 3) := by decide +kernel
theorem dX8_figure_115 : decode cX8_figure 115 = .ok (.bipush (-4), 2) := by decide +kernel
theorem dX8_figure_117 : decode cX8_figure 117 = .ok (.ireturn, 1) := by decide +kernel
theorem dX8_figure_118 : decode cX8_figure 118 = .ok (.aload_n 3, 1) := by decide +kernel
theorem dX8_figure_119 : decode cX8_figure 119 = .ok (.invokevirtual 142, 3) := by decide +kernel
theorem dX8_figure_122 : decode cX8_figure 122 = .ok (.ireturn, 1) := by decide +kernel
theorem dX8_figure_123 : decode cX8_figure 123 = .ok (.iconst (-1), 1) := by decide +kernel
theorem dX8_figure_124 : decode cX8_figure 124 = .ok (.ireturn, 1) := by decide +kernel
theorem dX8_vote_0 : decode cX8_vote 0 = .ok (.iload_n 1, 1) := by decide +kernel
theorem dX8_vote_1 : decode cX8_vote 1 = .ok (.ifCond .lt 14, 3) := by decide +kernel
theorem dX8_vote_4 : decode cX8_vote 4 = .ok (.iload_n 1, 1) := by decide +kernel
theorem dX8_vote_5 : decode cX8_vote 5 = .ok (.aload_n 0, 1) := by decide +kernel
theorem dX8_vote_6 : decode cX8_vote 6 = .ok (.getfield 19, 3) := by decide +kernel
theorem dX8_vote_9 : decode cX8_vote 9 = .ok (.getfield 113, 3) := by decide +kernel
theorem dX8_vote_12 : decode cX8_vote 12 = .ok (.if_icmp .lt 5, 3) := by decide +kernel
theorem dX8_vote_15 : decode cX8_vote 15 = .ok (.iconst (-1), 1) := by decide +kernel
theorem dX8_vote_16 : decode cX8_vote 16 = .ok (.ireturn, 1) := by decide +kernel
theorem dX8_vote_17 : decode cX8_vote 17 = .ok (.aload_n 0, 1) := by decide +kernel
theorem dX8_vote_18 : decode cX8_vote 18 = .ok (.getfield 19, 3) := by decide +kernel
theorem dX8_vote_21 : decode cX8_vote 21 = .ok (.getfield 145, 3) := by decide +kernel
theorem dX8_vote_24 : decode cX8_vote 24 = .ok (.iload_n 1, 1) := by decide +kernel
theorem dX8_vote_25 : decode cX8_vote 25 = .ok (.aaload, 1) := by decide +kernel
theorem dX8_vote_26 : decode cX8_vote 26 = .ok (.astore_n 3, 1) := by decide +kernel
theorem dX8_vote_27 : decode cX8_vote 27 = .ok (.iload_n 2, 1) := by decide +kernel
theorem dX8_vote_28 : decode cX8_vote 28 = .ok (.tableswitch 61 0 4 #[36, 41, 46, 51, 56], 36) := by decide +kernel
theorem dX8_vote_64 : decode cX8_vote 64 = .ok (.aload_n 3, 1) := by decide +kernel
theorem dX8_vote_65 : decode cX8_vote 65 = .ok (.getfield 149, 3) := by decide +kernel
theorem dX8_vote_68 : decode cX8_vote 68 = .ok (.ireturn, 1) := by decide +kernel
theorem dX8_vote_69 : decode cX8_vote 69 = .ok (.aload_n 3, 1) := by decide +kernel
theorem dX8_vote_70 : decode cX8_vote 70 = .ok (.getfield 154, 3) := by decide +kernel
theorem dX8_vote_73 : decode cX8_vote 73 = .ok (.ireturn, 1) := by decide +kernel
theorem dX8_vote_74 : decode cX8_vote 74 = .ok (.aload_n 3, 1) := by decide +kernel
theorem dX8_vote_75 : decode cX8_vote 75 = .ok (.getfield 157, 3) := by decide +kernel
theorem dX8_vote_78 : decode cX8_vote 78 = .ok (.ireturn, 1) := by decide +kernel
theorem dX8_vote_79 : decode cX8_vote 79 = .ok (.aload_n 3, 1) := by decide +kernel
theorem dX8_vote_80 : decode cX8_vote 80 = .ok (.getfield 158, 3) := by decide +kernel
theorem dX8_vote_83 : decode cX8_vote 83 = .ok (.ireturn, 1) := by decide +kernel
theorem dX8_vote_84 : decode cX8_vote 84 = .ok (.aload_n 3, 1) := by decide +kernel
theorem dX8_vote_85 : decode cX8_vote 85 = .ok (.getfield 159, 3) := by decide +kernel
theorem dX8_vote_88 : decode cX8_vote 88 = .ok (.ireturn, 1) := by decide +kernel
theorem dX8_vote_89 : decode cX8_vote 89 = .ok (.iconst (-1), 1) := by decide +kernel
theorem dX8_vote_90 : decode cX8_vote 90 = .ok (.ireturn, 1) := by decide +kernel
theorem dX8_out_0 : decode cX8_out 0 = .ok (.aload_n 0, 1) := by decide +kernel
theorem dX8_out_1 : decode cX8_out 1 = .ok (.iload_n 1, 1) := by decide +kernel
theorem dX8_out_2 : decode cX8_out 2 = .ok (.invokevirtual 116, 3) := by decide +kernel
theorem dX8_out_5 : decode cX8_out 5 = .ok (.ifCond .eq 10, 3) := by decide +kernel
theorem dX8_out_8 : decode cX8_out 8 = .ok (.lload_n 2, 1) := by decide +kernel
theorem dX8_out_9 : decode cX8_out 9 = .ok (.invokestatic 160, 3) := by decide +kernel
theorem dX8_out_12 : decode cX8_out 12 = .ok (.ifCond .ne 5, 3) := by decide +kernel
theorem dX8_out_15 : decode cX8_out 15 = .ok (.iconst (-1), 1) := by decide +kernel
theorem dX8_out_16 : decode cX8_out 16 = .ok (.ireturn, 1) := by decide +kernel
theorem dX8_out_17 : decode cX8_out 17 = .ok (.aload_n 0, 1) := by decide +kernel
theorem dX8_out_18 : decode cX8_out 18 = .ok (.getfield 19, 3) := by decide +kernel
theorem dX8_out_21 : decode cX8_out 21 = .ok (.getfield 120, 3) := by decide +kernel
theorem dX8_out_24 : decode cX8_out 24 = .ok (.iload_n 1, 1) := by decide +kernel
theorem dX8_out_25 : decode cX8_out 25 = .ok (.aaload, 1) := by decide +kernel
theorem dX8_out_26 : decode cX8_out 26 = .ok (.lload_n 2, 1) := by decide +kernel
theorem dX8_out_27 : decode cX8_out 27 = .ok (.invokevirtual 163, 3) := by decide +kernel
theorem dX8_out_30 : decode cX8_out 30 = .ok (.ifCond .eq 7, 3) := by decide +kernel
theorem dX8_out_33 : decode cX8_out 33 = .ok (.iconst 1, 1) := by decide +kernel
theorem dX8_out_34 : decode cX8_out 34 = .ok (.goto 4, 3) := by decide +kernel
theorem dX8_out_37 : decode cX8_out 37 = .ok (.iconst 0, 1) := by decide +kernel
theorem dX8_out_38 : decode cX8_out 38 = .ok (.ireturn, 1) := by decide +kernel
theorem dX8_next_0 : decode cX8_next 0 = .ok (.aload_n 0, 1) := by decide +kernel
theorem dX8_next_1 : decode cX8_next 1 = .ok (.iload_n 1, 1) := by decide +kernel
theorem dX8_next_2 : decode cX8_next 2 = .ok (.invokevirtual 116, 3) := by decide +kernel
theorem dX8_next_5 : decode cX8_next 5 = .ok (.ifCond .eq 10, 3) := by decide +kernel
theorem dX8_next_8 : decode cX8_next 8 = .ok (.lload_n 2, 1) := by decide +kernel
theorem dX8_next_9 : decode cX8_next 9 = .ok (.invokestatic 160, 3) := by decide +kernel
theorem dX8_next_12 : decode cX8_next 12 = .ok (.ifCond .ne 7, 3) := by decide +kernel
theorem dX8_next_15 : decode cX8_next 15 = .ok (.ldc2_w 166, 3) := by decide +kernel
theorem dX8_next_18 : decode cX8_next 18 = .ok (.lreturn, 1) := by decide +kernel
theorem dX8_next_19 : decode cX8_next 19 = .ok (.aload_n 0, 1) := by decide +kernel
theorem dX8_next_20 : decode cX8_next 20 = .ok (.getfield 43, 3) := by decide +kernel
theorem dX8_next_23 : decode cX8_next 23 = .ok (.aload_n 0, 1) := by decide +kernel
theorem dX8_next_24 : decode cX8_next 24 = .ok (.getfield 19, 3) := by decide +kernel
theorem dX8_next_27 : decode cX8_next 27 = .ok (.getfield 120, 3) := by decide +kernel
theorem dX8_next_30 : decode cX8_next 30 = .ok (.iconst 1, 1) := by decide +kernel
theorem dX8_next_31 : decode cX8_next 31 = .ok (.iload_n 1, 1) := by decide +kernel
theorem dX8_next_32 : decode cX8_next 32 = .ok (.ishl, 1) := by decide +kernel
theorem dX8_next_33 : decode cX8_next 33 = .ok (.lload_n 2, 1) := by decide +kernel
theorem dX8_next_34 : decode cX8_next 34 = .ok (.invokevirtual 168, 3) := by decide +kernel
theorem dX8_next_37 : decode cX8_next 37 = .ok (.lreturn, 1) := by decide +kernel
theorem dX8_last_0 : decode cX8_last 0 = .ok (.aload_n 0, 1) := by decide +kernel
theorem dX8_last_1 : decode cX8_last 1 = .ok (.iload_n 1, 1) := by decide +kernel
theorem dX8_last_2 : decode cX8_last 2 = .ok (.invokevirtual 116, 3) := by decide +kernel
theorem dX8_last_5 : decode cX8_last 5 = .ok (.ifCond .eq 10, 3) := by decide +kernel
theorem dX8_last_8 : decode cX8_last 8 = .ok (.lload_n 2, 1) := by decide +kernel
theorem dX8_last_9 : decode cX8_last 9 = .ok (.invokestatic 160, 3) := by decide +kernel
theorem dX8_last_12 : decode cX8_last 12 = .ok (.ifCond .ne 7, 3) := by decide +kernel
theorem dX8_last_15 : decode cX8_last 15 = .ok (.ldc2_w 166, 3) := by decide +kernel
theorem dX8_last_18 : decode cX8_last 18 = .ok (.lreturn, 1) := by decide +kernel
theorem dX8_last_19 : decode cX8_last 19 = .ok (.aload_n 0, 1) := by decide +kernel
theorem dX8_last_20 : decode cX8_last 20 = .ok (.getfield 19, 3) := by decide +kernel
theorem dX8_last_23 : decode cX8_last 23 = .ok (.getfield 120, 3) := by decide +kernel
theorem dX8_last_26 : decode cX8_last 26 = .ok (.iload_n 1, 1) := by decide +kernel
theorem dX8_last_27 : decode cX8_last 27 = .ok (.aaload, 1) := by decide +kernel
theorem dX8_last_28 : decode cX8_last 28 = .ok (.astore 4, 2) := by decide +kernel
theorem dX8_last_30 : decode cX8_last 30 = .ok (.ldc2_w 172, 3) := by decide +kernel
theorem dX8_last_33 : decode cX8_last 33 = .ok (.lstore 5, 2) := by decide +kernel
theorem dX8_last_35 : decode cX8_last 35 = .ok (.iconst 0, 1) := by decide +kernel
theorem dX8_last_36 : decode cX8_last 36 = .ok (.istore 7, 2) := by decide +kernel
theorem dX8_last_38 : decode cX8_last 38 = .ok (.iload 7, 2) := by decide +kernel
theorem dX8_last_40 : decode cX8_last 40 = .ok (.aload 4, 2) := by decide +kernel
theorem dX8_last_42 : decode cX8_last 42 = .ok (.invokevirtual 174, 3) := by decide +kernel
theorem dX8_last_45 : decode cX8_last 45 = .ok (.if_icmp .ge 51, 3) := by decide +kernel
theorem dX8_last_48 : decode cX8_last 48 = .ok (.lload_n 2, 1) := by decide +kernel
theorem dX8_last_49 : decode cX8_last 49 = .ok (.lload_n 2, 1) := by decide +kernel
theorem dX8_last_50 : decode cX8_last 50 = .ok (.aload 4, 2) := by decide +kernel
theorem dX8_last_52 : decode cX8_last 52 = .ok (.iload 7, 2) := by decide +kernel
theorem dX8_last_54 : decode cX8_last 54 = .ok (.invokevirtual 177, 3) := by decide +kernel
theorem dX8_last_57 : decode cX8_last 57 = .ok (.i2l, 1) := by decide +kernel
theorem dX8_last_58 : decode cX8_last 58 = .ok (.lsub, 1) := by decide +kernel
theorem dX8_last_59 : decode cX8_last 59 = .ok (.aload 4, 2) := by decide +kernel
theorem dX8_last_61 : decode cX8_last 61 = .ok (.invokevirtual 142, 3) := by decide +kernel
theorem dX8_last_64 : decode cX8_last 64 = .ok (.i2l, 1) := by decide +kernel
theorem dX8_last_65 : decode cX8_last 65 = .ok (.invokestatic 181, 3) := by decide +kernel
theorem dX8_last_68 : decode cX8_last 68 = .ok (.lsub, 1) := by decide +kernel
theorem dX8_last_69 : decode cX8_last 69 = .ok (.lstore 8, 2) := by decide +kernel
theorem dX8_last_71 : decode cX8_last 71 = .ok (.lload 8, 2) := by decide +kernel
theorem dX8_last_73 : decode cX8_last 73 = .ok (.lconst 0, 1) := by decide +kernel
theorem dX8_last_74 : decode cX8_last 74 = .ok (.lcmp, 1) := by decide +kernel
theorem dX8_last_75 : decode cX8_last 75 = .ok (.ifCond .lt 15, 3) := by decide +kernel
theorem dX8_last_78 : decode cX8_last 78 = .ok (.lload 8, 2) := by decide +kernel
theorem dX8_last_80 : decode cX8_last 80 = .ok (.lload 5, 2) := by decide +kernel
theorem dX8_last_82 : decode cX8_last 82 = .ok (.lcmp, 1) := by decide +kernel
theorem dX8_last_83 : decode cX8_last 83 = .ok (.ifCond .le 7, 3) := by decide +kernel
theorem dX8_last_86 : decode cX8_last 86 = .ok (.lload 8, 2) := by decide +kernel
theorem dX8_last_88 : decode cX8_last 88 = .ok (.lstore 5, 2) := by decide +kernel
theorem dX8_last_90 : decode cX8_last 90 = .ok (.iinc 7 1, 3) := by decide +kernel
theorem dX8_last_93 : decode cX8_last 93 = .ok (.goto (-55), 3) := by decide +kernel
theorem dX8_last_96 : decode cX8_last 96 = .ok (.lload 5, 2) := by decide +kernel
theorem dX8_last_98 : decode cX8_last 98 = .ok (.lreturn, 1) := by decide +kernel
theorem dX8_often_0 : decode cX8_often 0 = .ok (.aload_n 0, 1) := by decide +kernel
theorem dX8_often_1 : decode cX8_often 1 = .ok (.iload_n 1, 1) := by decide +kernel
theorem dX8_often_2 : decode cX8_often 2 = .ok (.invokevirtual 116, 3) := by decide +kernel
theorem dX8_often_5 : decode cX8_often 5 = .ok (.ifCond .eq 12, 3) := by decide +kernel
theorem dX8_often_8 : decode cX8_often 8 = .ok (.lload_n 2, 1) := by decide +kernel
theorem dX8_often_9 : decode cX8_often 9 = .ok (.lload 4, 2) := by decide +kernel
theorem dX8_often_11 : decode cX8_often 11 = .ok (.invokestatic 185, 3) := by decide +kernel
theorem dX8_often_14 : decode cX8_often 14 = .ok (.ifCond .ne 7, 3) := by decide +kernel
theorem dX8_often_17 : decode cX8_often 17 = .ok (.ldc2_w 166, 3) := by decide +kernel
theorem dX8_often_20 : decode cX8_often 20 = .ok (.lreturn, 1) := by decide +kernel
theorem dX8_often_21 : decode cX8_often 21 = .ok (.aload_n 0, 1) := by decide +kernel
theorem dX8_often_22 : decode cX8_often 22 = .ok (.getfield 43, 3) := by decide +kernel
theorem dX8_often_25 : decode cX8_often 25 = .ok (.aload_n 0, 1) := by decide +kernel
theorem dX8_often_26 : decode cX8_often 26 = .ok (.getfield 19, 3) := by decide +kernel
theorem dX8_often_29 : decode cX8_often 29 = .ok (.getfield 120, 3) := by decide +kernel
theorem dX8_often_32 : decode cX8_often 32 = .ok (.iconst 1, 1) := by decide +kernel
theorem dX8_often_33 : decode cX8_often 33 = .ok (.iload_n 1, 1) := by decide +kernel
theorem dX8_often_34 : decode cX8_often 34 = .ok (.ishl, 1) := by decide +kernel
theorem dX8_often_35 : decode cX8_often 35 = .ok (.lload_n 2, 1) := by decide +kernel
theorem dX8_often_36 : decode cX8_often 36 = .ok (.lload 4, 2) := by decide +kernel
theorem dX8_often_38 : decode cX8_often 38 = .ok (.invokevirtual 189, 3) := by decide +kernel
theorem dX8_often_41 : decode cX8_often 41 = .ok (.lreturn, 1) := by decide +kernel
theorem dX8_together_0 : decode cX8_together 0 = .ok (.aload_n 0, 1) := by decide +kernel
theorem dX8_together_1 : decode cX8_together 1 = .ok (.iload_n 1, 1) := by decide +kernel
theorem dX8_together_2 : decode cX8_together 2 = .ok (.iload_n 2, 1) := by decide +kernel
theorem dX8_together_3 : decode cX8_together 3 = .ok (.invokevirtual 193, 3) := by decide +kernel
theorem dX8_together_6 : decode cX8_together 6 = .ok (.ifCond .eq 10, 3) := by decide +kernel
theorem dX8_together_9 : decode cX8_together 9 = .ok (.lload_n 3, 1) := by decide +kernel
theorem dX8_together_10 : decode cX8_together 10 = .ok (.invokestatic 160, 3) := by decide +kernel
theorem dX8_together_13 : decode cX8_together 13 = .ok (.ifCond .ne 7, 3) := by decide +kernel
theorem dX8_together_16 : decode cX8_together 16 = .ok (.ldc2_w 166, 3) := by decide +kernel
theorem dX8_together_19 : decode cX8_together 19 = .ok (.lreturn, 1) := by decide +kernel
theorem dX8_together_20 : decode cX8_together 20 = .ok (.aload_n 0, 1) := by decide +kernel
theorem dX8_together_21 : decode cX8_together 21 = .ok (.getfield 43, 3) := by decide +kernel
theorem dX8_together_24 : decode cX8_together 24 = .ok (.aload_n 0, 1) := by decide +kernel
theorem dX8_together_25 : decode cX8_together 25 = .ok (.getfield 19, 3) := by decide +kernel
theorem dX8_together_28 : decode cX8_together 28 = .ok (.getfield 120, 3) := by decide +kernel
theorem dX8_together_31 : decode cX8_together 31 = .ok (.iconst 1, 1) := by decide +kernel
theorem dX8_together_32 : decode cX8_together 32 = .ok (.iload_n 1, 1) := by decide +kernel
theorem dX8_together_33 : decode cX8_together 33 = .ok (.ishl, 1) := by decide +kernel
theorem dX8_together_34 : decode cX8_together 34 = .ok (.iconst 1, 1) := by decide +kernel
theorem dX8_together_35 : decode cX8_together 35 = .ok (.iload_n 2, 1) := by decide +kernel
theorem dX8_together_36 : decode cX8_together 36 = .ok (.ishl, 1) := by decide +kernel
theorem dX8_together_37 : decode cX8_together 37 = .ok (.ior, 1) := by decide +kernel
theorem dX8_together_38 : decode cX8_together 38 = .ok (.lload_n 3, 1) := by decide +kernel
theorem dX8_together_39 : decode cX8_together 39 = .ok (.invokevirtual 168, 3) := by decide +kernel
theorem dX8_together_42 : decode cX8_together 42 = .ok (.lreturn, 1) := by decide +kernel
theorem dX8_meetings_0 : decode cX8_meetings 0 = .ok (.aload_n 0, 1) := by decide +kernel
theorem dX8_meetings_1 : decode cX8_meetings 1 = .ok (.iload_n 1, 1) := by decide +kernel
theorem dX8_meetings_2 : decode cX8_meetings 2 = .ok (.iload_n 2, 1) := by decide +kernel
theorem dX8_meetings_3 : decode cX8_meetings 3 = .ok (.invokevirtual 193, 3) := by decide +kernel
theorem dX8_meetings_6 : decode cX8_meetings 6 = .ok (.ifCond .eq 12, 3) := by decide +kernel
theorem dX8_meetings_9 : decode cX8_meetings 9 = .ok (.lload_n 3, 1) := by decide +kernel
theorem dX8_meetings_10 : decode cX8_meetings 10 = .ok (.lload 5, 2) := by decide +kernel
theorem dX8_meetings_12 : decode cX8_meetings 12 = .ok (.invokestatic 185, 3) := by decide +kernel
theorem dX8_meetings_15 : decode cX8_meetings 15 = .ok (.ifCond .ne 7, 3) := by decide +kernel
theorem dX8_meetings_18 : decode cX8_meetings 18 = .ok (.ldc2_w 166, 3) := by decide +kernel
theorem dX8_meetings_21 : decode cX8_meetings 21 = .ok (.lreturn, 1) := by decide +kernel
theorem dX8_meetings_22 : decode cX8_meetings 22 = .ok (.aload_n 0, 1) := by decide +kernel
theorem dX8_meetings_23 : decode cX8_meetings 23 = .ok (.getfield 43, 3) := by decide +kernel
theorem dX8_meetings_26 : decode cX8_meetings 26 = .ok (.aload_n 0, 1) := by decide +kernel
theorem dX8_meetings_27 : decode cX8_meetings 27 = .ok (.getfield 19, 3) := by decide +kernel
theorem dX8_meetings_30 : decode cX8_meetings 30 = .ok (.getfield 120, 3) := by decide +kernel
theorem dX8_meetings_33 : decode cX8_meetings 33 = .ok (.iconst 1, 1) := by decide +kernel
theorem dX8_meetings_34 : decode cX8_meetings 34 = .ok (.iload_n 1, 1) := by decide +kernel
theorem dX8_meetings_35 : decode cX8_meetings 35 = .ok (.ishl, 1) := by decide +kernel
theorem dX8_meetings_36 : decode cX8_meetings 36 = .ok (.iconst 1, 1) := by decide +kernel
theorem dX8_meetings_37 : decode cX8_meetings 37 = .ok (.iload_n 2, 1) := by decide +kernel
theorem dX8_meetings_38 : decode cX8_meetings 38 = .ok (.ishl, 1) := by decide +kernel
theorem dX8_meetings_39 : decode cX8_meetings 39 = .ok (.ior, 1) := by decide +kernel
theorem dX8_meetings_40 : decode cX8_meetings 40 = .ok (.lload_n 3, 1) := by decide +kernel
theorem dX8_meetings_41 : decode cX8_meetings 41 = .ok (.lload 5, 2) := by decide +kernel
theorem dX8_meetings_43 : decode cX8_meetings 43 = .ok (.invokevirtual 189, 3) := by decide +kernel
theorem dX8_meetings_46 : decode cX8_meetings 46 = .ok (.lreturn, 1) := by decide +kernel
theorem dX8_all_0 : decode cX8_all 0 = .ok (.aload_n 0, 1) := by decide +kernel
theorem dX8_all_1 : decode cX8_all 1 = .ok (.iload_n 1, 1) := by decide +kernel
theorem dX8_all_2 : decode cX8_all 2 = .ok (.invokevirtual 197, 3) := by decide +kernel
theorem dX8_all_5 : decode cX8_all 5 = .ok (.ifCond .eq 10, 3) := by decide +kernel
theorem dX8_all_8 : decode cX8_all 8 = .ok (.lload_n 2, 1) := by decide +kernel
theorem dX8_all_9 : decode cX8_all 9 = .ok (.invokestatic 160, 3) := by decide +kernel
theorem dX8_all_12 : decode cX8_all 12 = .ok (.ifCond .ne 7, 3) := by decide +kernel
theorem dX8_all_15 : decode cX8_all 15 = .ok (.ldc2_w 166, 3) := by decide +kernel
theorem dX8_all_18 : decode cX8_all 18 = .ok (.lreturn, 1) := by decide +kernel
theorem dX8_all_19 : decode cX8_all 19 = .ok (.aload_n 0, 1) := by decide +kernel
theorem dX8_all_20 : decode cX8_all 20 = .ok (.getfield 43, 3) := by decide +kernel
theorem dX8_all_23 : decode cX8_all 23 = .ok (.aload_n 0, 1) := by decide +kernel
theorem dX8_all_24 : decode cX8_all 24 = .ok (.getfield 19, 3) := by decide +kernel
theorem dX8_all_27 : decode cX8_all 27 = .ok (.getfield 120, 3) := by decide +kernel
theorem dX8_all_30 : decode cX8_all 30 = .ok (.iload_n 1, 1) := by decide +kernel
theorem dX8_all_31 : decode cX8_all 31 = .ok (.lload_n 2, 1) := by decide +kernel
theorem dX8_all_32 : decode cX8_all 32 = .ok (.invokevirtual 168, 3) := by decide +kernel
theorem dX8_all_35 : decode cX8_all 35 = .ok (.lreturn, 1) := by decide +kernel
theorem dX8_cycle_0 : decode cX8_cycle 0 = .ok (.aload_n 0, 1) := by decide +kernel
theorem dX8_cycle_1 : decode cX8_cycle 1 = .ok (.iload_n 1, 1) := by decide +kernel
theorem dX8_cycle_2 : decode cX8_cycle 2 = .ok (.invokevirtual 197, 3) := by decide +kernel
theorem dX8_cycle_5 : decode cX8_cycle 5 = .ok (.ifCond .ne 7, 3) := by decide +kernel
theorem dX8_cycle_8 : decode cX8_cycle 8 = .ok (.ldc2_w 166, 3) := by decide +kernel
theorem dX8_cycle_11 : decode cX8_cycle 11 = .ok (.lreturn, 1) := by decide +kernel
theorem dX8_cycle_12 : decode cX8_cycle 12 = .ok (.aload_n 0, 1) := by decide +kernel
theorem dX8_cycle_13 : decode cX8_cycle 13 = .ok (.getfield 43, 3) := by decide +kernel
theorem dX8_cycle_16 : decode cX8_cycle 16 = .ok (.aload_n 0, 1) := by decide +kernel
theorem dX8_cycle_17 : decode cX8_cycle 17 = .ok (.getfield 19, 3) := by decide +kernel
theorem dX8_cycle_20 : decode cX8_cycle 20 = .ok (.getfield 120, 3) := by decide +kernel
theorem dX8_cycle_23 : decode cX8_cycle 23 = .ok (.iload_n 1, 1) := by decide +kernel
theorem dX8_cycle_24 : decode cX8_cycle 24 = .ok (.invokevirtual 200, 3) := by decide +kernel
theorem dX8_cycle_27 : decode cX8_cycle 27 = .ok (.lreturn, 1) := by decide +kernel
theorem dX8_crash_0 : decode cX8_crash 0 = .ok (.aload_n 0, 1) := by decide +kernel
theorem dX8_crash_1 : decode cX8_crash 1 = .ok (.iload_n 1, 1) := by decide +kernel
theorem dX8_crash_2 : decode cX8_crash 2 = .ok (.invokevirtual 116, 3) := by decide +kernel
theorem dX8_crash_5 : decode cX8_crash 5 = .ok (.ifCond .ne 5, 3) := by decide +kernel
theorem dX8_crash_8 : decode cX8_crash 8 = .ok (.iconst (-1), 1) := by decide +kernel
theorem dX8_crash_9 : decode cX8_crash 9 = .ok (.ireturn, 1) := by decide +kernel
theorem dX8_crash_10 : decode cX8_crash 10 = .ok (.aload_n 0, 1) := by decide +kernel
theorem dX8_crash_11 : decode cX8_crash 11 = .ok (.getfield 19, 3) := by decide +kernel
theorem dX8_crash_14 : decode cX8_crash 14 = .ok (.iload_n 1, 1) := by decide +kernel
theorem dX8_crash_15 : decode cX8_crash 15 = .ok (.invokevirtual 204, 3) := by decide +kernel
theorem dX8_crash_18 : decode cX8_crash 18 = .ok (.ireturn, 1) := by decide +kernel
theorem dX8_first_0 : decode cX8_first 0 = .ok (.lload_n 1, 1) := by decide +kernel
theorem dX8_first_1 : decode cX8_first 1 = .ok (.invokestatic 160, 3) := by decide +kernel
theorem dX8_first_4 : decode cX8_first 4 = .ok (.ifCond .eq 10, 3) := by decide +kernel
theorem dX8_first_7 : decode cX8_first 7 = .ok (.iload_n 3, 1) := by decide +kernel
theorem dX8_first_8 : decode cX8_first 8 = .ok (.invokestatic 207, 3) := by decide +kernel
theorem dX8_first_11 : decode cX8_first 11 = .ok (.ifCond .ne 7, 3) := by decide +kernel
theorem dX8_first_14 : decode cX8_first 14 = .ok (.ldc2_w 166, 3) := by decide +kernel
theorem dX8_first_17 : decode cX8_first 17 = .ok (.lreturn, 1) := by decide +kernel
theorem dX8_first_18 : decode cX8_first 18 = .ok (.ldc2_w 210, 3) := by decide +kernel
theorem dX8_first_21 : decode cX8_first 21 = .ok (.lstore 4, 2) := by decide +kernel
theorem dX8_first_23 : decode cX8_first 23 = .ok (.bipush (-4), 2) := by decide +kernel
theorem dX8_first_25 : decode cX8_first 25 = .ok (.istore 6, 2) := by decide +kernel
theorem dX8_first_27 : decode cX8_first 27 = .ok (.iconst 0, 1) := by decide +kernel
theorem dX8_first_28 : decode cX8_first 28 = .ok (.istore 7, 2) := by decide +kernel
theorem dX8_first_30 : decode cX8_first 30 = .ok (.iload 7, 2) := by decide +kernel
theorem dX8_first_32 : decode cX8_first 32 = .ok (.aload_n 0, 1) := by decide +kernel
theorem dX8_first_33 : decode cX8_first 33 = .ok (.getfield 19, 3) := by decide +kernel
theorem dX8_first_36 : decode cX8_first 36 = .ok (.getfield 98, 3) := by decide +kernel
theorem dX8_first_39 : decode cX8_first 39 = .ok (.if_icmp .ge 123, 3) := by decide +kernel
theorem dX8_first_42 : decode cX8_first 42 = .ok (.iload 7, 2) := by decide +kernel
theorem dX8_first_44 : decode cX8_first 44 = .ok (.iconst 1, 1) := by decide +kernel
theorem dX8_first_45 : decode cX8_first 45 = .ok (.iadd, 1) := by decide +kernel
theorem dX8_first_46 : decode cX8_first 46 = .ok (.istore 8, 2) := by decide +kernel
theorem dX8_first_48 : decode cX8_first 48 = .ok (.iload 8, 2) := by decide +kernel
theorem dX8_first_50 : decode cX8_first 50 = .ok (.aload_n 0, 1) := by decide +kernel
theorem dX8_first_51 : decode cX8_first 51 = .ok (.getfield 19, 3) := by decide +kernel
theorem dX8_first_54 : decode cX8_first 54 = .ok (.getfield 98, 3) := by decide +kernel
theorem dX8_first_57 : decode cX8_first 57 = .ok (.if_icmp .ge 99, 3) := by decide +kernel
theorem dX8_first_60 : decode cX8_first 60 = .ok (.aload_n 0, 1) := by decide +kernel
theorem dX8_first_61 : decode cX8_first 61 = .ok (.getfield 19, 3) := by decide +kernel
theorem dX8_first_64 : decode cX8_first 64 = .ok (.getfield 120, 3) := by decide +kernel
theorem dX8_first_67 : decode cX8_first 67 = .ok (.iload 7, 2) := by decide +kernel
theorem dX8_first_69 : decode cX8_first 69 = .ok (.aaload, 1) := by decide +kernel
theorem dX8_first_70 : decode cX8_first 70 = .ok (.getfield 133, 3) := by decide +kernel
theorem dX8_first_73 : decode cX8_first 73 = .ok (.aload_n 0, 1) := by decide +kernel
theorem dX8_first_74 : decode cX8_first 74 = .ok (.getfield 19, 3) := by decide +kernel
theorem dX8_first_77 : decode cX8_first 77 = .ok (.getfield 120, 3) := by decide +kernel
theorem dX8_first_80 : decode cX8_first 80 = .ok (.iload 8, 2) := by decide +kernel
theorem dX8_first_82 : decode cX8_first 82 = .ok (.aaload, 1) := by decide +kernel
theorem dX8_first_83 : decode cX8_first 83 = .ok (.getfield 133, 3) := by decide +kernel
theorem dX8_first_86 : decode cX8_first 86 = .ok (.if_icmp .ne 30, 3) := by decide +kernel
theorem dX8_first_89 : decode cX8_first 89 = .ok (.aload_n 0, 1) := by decide +kernel
theorem dX8_first_90 : decode cX8_first 90 = .ok (.getfield 43, 3) := by decide +kernel
theorem dX8_first_93 : decode cX8_first 93 = .ok (.aload_n 0, 1) := by decide +kernel
theorem dX8_first_94 : decode cX8_first 94 = .ok (.getfield 19, 3) := by decide +kernel
theorem dX8_first_97 : decode cX8_first 97 = .ok (.getfield 120, 3) := by decide +kernel
theorem dX8_first_100 : decode cX8_first 100 = .ok (.iconst 1, 1) := by decide +kernel
theorem dX8_first_101 : decode cX8_first 101 = .ok (.iload 7, 2) := by decide +kernel
theorem dX8_first_103 : decode cX8_first 103 = .ok (.ishl, 1) := by decide +kernel
theorem dX8_first_104 : decode cX8_first 104 = .ok (.iconst 1, 1) := by decide +kernel
theorem dX8_first_105 : decode cX8_first 105 = .ok (.iload 8, 2) := by decide +kernel
theorem dX8_first_107 : decode cX8_first 107 = .ok (.ishl, 1) := by decide +kernel
theorem dX8_first_108 : decode cX8_first 108 = .ok (.ior, 1) := by decide +kernel
theorem dX8_first_109 : decode cX8_first 109 = .ok (.lload_n 1, 1) := by decide +kernel
theorem dX8_first_110 : decode cX8_first 110 = .ok (.invokevirtual 168, 3) := by decide +kernel
theorem dX8_first_113 : decode cX8_first 113 = .ok (.goto 6, 3) := by decide +kernel
theorem dX8_first_116 : decode cX8_first 116 = .ok (.ldc2_w 172, 3) := by decide +kernel
theorem dX8_first_119 : decode cX8_first 119 = .ok (.lstore 9, 2) := by decide +kernel
theorem dX8_first_121 : decode cX8_first 121 = .ok (.lload 9, 2) := by decide +kernel
theorem dX8_first_123 : decode cX8_first 123 = .ok (.lconst 0, 1) := by decide +kernel
theorem dX8_first_124 : decode cX8_first 124 = .ok (.lcmp, 1) := by decide +kernel
theorem dX8_first_125 : decode cX8_first 125 = .ok (.ifCond .lt 25, 3) := by decide +kernel
theorem dX8_first_128 : decode cX8_first 128 = .ok (.lload 9, 2) := by decide +kernel
theorem dX8_first_130 : decode cX8_first 130 = .ok (.lload 4, 2) := by decide +kernel
theorem dX8_first_132 : decode cX8_first 132 = .ok (.lcmp, 1) := by decide +kernel
theorem dX8_first_133 : decode cX8_first 133 = .ok (.ifCond .ge 17, 3) := by decide +kernel
theorem dX8_first_136 : decode cX8_first 136 = .ok (.lload 9, 2) := by decide +kernel
theorem dX8_first_138 : decode cX8_first 138 = .ok (.lstore 4, 2) := by decide +kernel
theorem dX8_first_140 : decode cX8_first 140 = .ok (.bipush 10, 2) := by decide +kernel
theorem dX8_first_142 : decode cX8_first 142 = .ok (.iload 7, 2) := by decide +kernel
theorem dX8_first_144 : decode cX8_first 144 = .ok (.imul, 1) := by decide +kernel
theorem dX8_first_145 : decode cX8_first 145 = .ok (.iload 8, 2) := by decide +kernel
theorem dX8_first_147 : decode cX8_first 147 = .ok (.iadd, 1) := by decide +kernel
theorem dX8_first_148 : decode cX8_first 148 = .ok (.istore 6, 2) := by decide +kernel
theorem dX8_first_150 : decode cX8_first 150 = .ok (.iinc 8 1, 3) := by decide +kernel
theorem dX8_first_153 : decode cX8_first 153 = .ok (.goto (-105), 3) := by decide +kernel
theorem dX8_first_156 : decode cX8_first 156 = .ok (.iinc 7 1, 3) := by decide +kernel
theorem dX8_first_159 : decode cX8_first 159 = .ok (.goto (-129), 3) := by decide +kernel
theorem dX8_first_162 : decode cX8_first 162 = .ok (.iload 6, 2) := by decide +kernel
theorem dX8_first_164 : decode cX8_first 164 = .ok (.bipush (-4), 2) := by decide +kernel
theorem dX8_first_166 : decode cX8_first 166 = .ok (.if_icmp .ne 7, 3) := by decide +kernel
theorem dX8_first_169 : decode cX8_first 169 = .ok (.ldc2_w 172, 3) := by decide +kernel
theorem dX8_first_172 : decode cX8_first 172 = .ok (.lreturn, 1) := by decide +kernel
theorem dX8_first_173 : decode cX8_first 173 = .ok (.iload_n 3, 1) := by decide +kernel
theorem dX8_first_174 : decode cX8_first 174 = .ok (.ifCond .ne 8, 3) := by decide +kernel
theorem dX8_first_177 : decode cX8_first 177 = .ok (.lload 4, 2) := by decide +kernel
theorem dX8_first_179 : decode cX8_first 179 = .ok (.goto 6, 3) := by decide +kernel
theorem dX8_first_182 : decode cX8_first 182 = .ok (.iload 6, 2) := by decide +kernel
theorem dX8_first_184 : decode cX8_first 184 = .ok (.i2l, 1) := by decide +kernel
theorem dX8_first_185 : decode cX8_first 185 = .ok (.lreturn, 1) := by decide +kernel
theorem dX8_date_0 : decode cX8_date 0 = .ok (.lload_n 1, 1) := by decide +kernel
theorem dX8_date_1 : decode cX8_date 1 = .ok (.invokestatic 160, 3) := by decide +kernel
theorem dX8_date_4 : decode cX8_date 4 = .ok (.ifCond .eq 10, 3) := by decide +kernel
theorem dX8_date_7 : decode cX8_date 7 = .ok (.iload_n 3, 1) := by decide +kernel
theorem dX8_date_8 : decode cX8_date 8 = .ok (.invokestatic 207, 3) := by decide +kernel
theorem dX8_date_11 : decode cX8_date 11 = .ok (.ifCond .ne 7, 3) := by decide +kernel
theorem dX8_date_14 : decode cX8_date 14 = .ok (.ldc2_w 166, 3) := by decide +kernel
theorem dX8_date_17 : decode cX8_date 17 = .ok (.lreturn, 1) := by decide +kernel
theorem dX8_date_18 : decode cX8_date 18 = .ok (.iload_n 3, 1) := by decide +kernel
theorem dX8_date_19 : decode cX8_date 19 = .ok (.ifCond .ne 10, 3) := by decide +kernel
theorem dX8_date_22 : decode cX8_date 22 = .ok (.lload_n 1, 1) := by decide +kernel
theorem dX8_date_23 : decode cX8_date 23 = .ok (.invokestatic 212, 3) := by decide +kernel
theorem dX8_date_26 : decode cX8_date 26 = .ok (.goto 8, 3) := by decide +kernel
theorem dX8_date_29 : decode cX8_date 29 = .ok (.lload_n 1, 1) := by decide +kernel
theorem dX8_date_30 : decode cX8_date 30 = .ok (.invokestatic 216, 3) := by decide +kernel
theorem dX8_date_33 : decode cX8_date 33 = .ok (.i2l, 1) := by decide +kernel
theorem dX8_date_34 : decode cX8_date 34 = .ok (.lreturn, 1) := by decide +kernel
theorem dX8_day_0 : decode cX8_day 0 = .ok (.iload_n 1, 1) := by decide +kernel
theorem dX8_day_1 : decode cX8_day 1 = .ok (.ifCond .lt 33, 3) := by decide +kernel
theorem dX8_day_4 : decode cX8_day 4 = .ok (.iload_n 1, 1) := by decide +kernel
theorem dX8_day_5 : decode cX8_day 5 = .ok (.sipush 9999, 3) := by decide +kernel
theorem dX8_day_8 : decode cX8_day 8 = .ok (.if_icmp .gt 26, 3) := by decide +kernel
theorem dX8_day_11 : decode cX8_day 11 = .ok (.iload_n 2, 1) := by decide +kernel
theorem dX8_day_12 : decode cX8_day 12 = .ok (.ifCond .lt 22, 3) := by decide +kernel
theorem dX8_day_15 : decode cX8_day 15 = .ok (.iload_n 2, 1) := by decide +kernel
theorem dX8_day_16 : decode cX8_day 16 = .ok (.iload_n 1, 1) := by decide +kernel
theorem dX8_day_17 : decode cX8_day 17 = .ok (.iconst 4, 1) := by decide +kernel
theorem dX8_day_18 : decode cX8_day 18 = .ok (.irem, 1) := by decide +kernel
theorem dX8_day_19 : decode cX8_day 19 = .ok (.ifCond .ne 9, 3) := by decide +kernel
theorem dX8_day_22 : decode cX8_day 22 = .ok (.sipush 366, 3) := by decide +kernel
theorem dX8_day_25 : decode cX8_day 25 = .ok (.goto 6, 3) := by decide +kernel
theorem dX8_day_28 : decode cX8_day 28 = .ok (.sipush 365, 3) := by decide +kernel
theorem dX8_day_31 : decode cX8_day 31 = .ok (.if_icmp .lt 7, 3) := by decide +kernel
theorem dX8_day_34 : decode cX8_day 34 = .ok (.ldc2_w 166, 3) := by decide +kernel
theorem dX8_day_37 : decode cX8_day 37 = .ok (.lreturn, 1) := by decide +kernel
theorem dX8_day_38 : decode cX8_day 38 = .ok (.iload_n 1, 1) := by decide +kernel
theorem dX8_day_39 : decode cX8_day 39 = .ok (.iconst 3, 1) := by decide +kernel
theorem dX8_day_40 : decode cX8_day 40 = .ok (.iadd, 1) := by decide +kernel
theorem dX8_day_41 : decode cX8_day 41 = .ok (.iconst 4, 1) := by decide +kernel
theorem dX8_day_42 : decode cX8_day 42 = .ok (.idiv, 1) := by decide +kernel
theorem dX8_day_43 : decode cX8_day 43 = .ok (.istore_n 3, 1) := by decide +kernel
theorem dX8_day_44 : decode cX8_day 44 = .ok (.iload_n 1, 1) := by decide +kernel
theorem dX8_day_45 : decode cX8_day 45 = .ok (.i2l, 1) := by decide +kernel
theorem dX8_day_46 : decode cX8_day 46 = .ok (.ldc2_w 220, 3) := by decide +kernel
theorem dX8_day_49 : decode cX8_day 49 = .ok (.lmul, 1) := by decide +kernel
theorem dX8_day_50 : decode cX8_day 50 = .ok (.iload_n 3, 1) := by decide +kernel
theorem dX8_day_51 : decode cX8_day 51 = .ok (.i2l, 1) := by decide +kernel
theorem dX8_day_52 : decode cX8_day 52 = .ok (.ladd, 1) := by decide +kernel
theorem dX8_day_53 : decode cX8_day 53 = .ok (.iload_n 2, 1) := by decide +kernel
theorem dX8_day_54 : decode cX8_day 54 = .ok (.i2l, 1) := by decide +kernel
theorem dX8_day_55 : decode cX8_day 55 = .ok (.ladd, 1) := by decide +kernel
theorem dX8_day_56 : decode cX8_day 56 = .ok (.lreturn, 1) := by decide +kernel
theorem dX8_by_0 : decode cX8_by 0 = .ok (.aload_n 0, 1) := by decide +kernel
theorem dX8_by_1 : decode cX8_by 1 = .ok (.iload_n 1, 1) := by decide +kernel
theorem dX8_by_2 : decode cX8_by 2 = .ok (.invokevirtual 116, 3) := by decide +kernel
theorem dX8_by_5 : decode cX8_by 5 = .ok (.ifCond .eq 10, 3) := by decide +kernel
theorem dX8_by_8 : decode cX8_by 8 = .ok (.lload_n 2, 1) := by decide +kernel
theorem dX8_by_9 : decode cX8_by 9 = .ok (.invokestatic 160, 3) := by decide +kernel
theorem dX8_by_12 : decode cX8_by 12 = .ok (.ifCond .ne 5, 3) := by decide +kernel
theorem dX8_by_15 : decode cX8_by 15 = .ok (.iconst (-1), 1) := by decide +kernel
theorem dX8_by_16 : decode cX8_by 16 = .ok (.ireturn, 1) := by decide +kernel
theorem dX8_by_17 : decode cX8_by 17 = .ok (.aload_n 0, 1) := by decide +kernel
theorem dX8_by_18 : decode cX8_by 18 = .ok (.getfield 19, 3) := by decide +kernel
theorem dX8_by_21 : decode cX8_by 21 = .ok (.getfield 120, 3) := by decide +kernel
theorem dX8_by_24 : decode cX8_by 24 = .ok (.iload_n 1, 1) := by decide +kernel
theorem dX8_by_25 : decode cX8_by 25 = .ok (.aaload, 1) := by decide +kernel
theorem dX8_by_26 : decode cX8_by 26 = .ok (.astore 4, 2) := by decide +kernel
theorem dX8_by_28 : decode cX8_by 28 = .ok (.aload 4, 2) := by decide +kernel
theorem dX8_by_30 : decode cX8_by 30 = .ok (.lload_n 2, 1) := by decide +kernel
theorem dX8_by_31 : decode cX8_by 31 = .ok (.invokevirtual 163, 3) := by decide +kernel
theorem dX8_by_34 : decode cX8_by 34 = .ok (.ifCond .eq 19, 3) := by decide +kernel
theorem dX8_by_37 : decode cX8_by 37 = .ok (.aload_n 0, 1) := by decide +kernel
theorem dX8_by_38 : decode cX8_by 38 = .ok (.getfield 19, 3) := by decide +kernel
theorem dX8_by_41 : decode cX8_by 41 = .ok (.aload 4, 2) := by decide +kernel
theorem dX8_by_43 : decode cX8_by 43 = .ok (.lload_n 2, 1) := by decide +kernel
theorem dX8_by_44 : decode cX8_by 44 = .ok (.invokestatic 216, 3) := by decide +kernel
theorem dX8_by_47 : decode cX8_by 47 = .ok (.invokevirtual 222, 3) := by decide +kernel
theorem dX8_by_50 : decode cX8_by 50 = .ok (.goto 5, 3) := by decide +kernel
theorem dX8_by_53 : decode cX8_by 53 = .ok (.bipush (-4), 2) := by decide +kernel
theorem dX8_by_55 : decode cX8_by 55 = .ok (.ireturn, 1) := by decide +kernel
theorem dX8_clashes_0 : decode cX8_clashes 0 = .ok (.lload_n 1, 1) := by decide +kernel
theorem dX8_clashes_1 : decode cX8_clashes 1 = .ok (.invokestatic 160, 3) := by decide +kernel
theorem dX8_clashes_4 : decode cX8_clashes 4 = .ok (.ifCond .eq 10, 3) := by decide +kernel
theorem dX8_clashes_7 : decode cX8_clashes 7 = .ok (.iload_n 3, 1) := by decide +kernel
theorem dX8_clashes_8 : decode cX8_clashes 8 = .ok (.invokestatic 226, 3) := by decide +kernel
theorem dX8_clashes_11 : decode cX8_clashes 11 = .ok (.ifCond .ne 5, 3) := by decide +kernel
theorem dX8_clashes_14 : decode cX8_clashes 14 = .ok (.iconst (-1), 1) := by decide +kernel
theorem dX8_clashes_15 : decode cX8_clashes 15 = .ok (.ireturn, 1) := by decide +kernel
theorem dX8_clashes_16 : decode cX8_clashes 16 = .ok (.iconst 0, 1) := by decide +kernel
theorem dX8_clashes_17 : decode cX8_clashes 17 = .ok (.istore 4, 2) := by decide +kernel
theorem dX8_clashes_19 : decode cX8_clashes 19 = .ok (.iconst 0, 1) := by decide +kernel
theorem dX8_clashes_20 : decode cX8_clashes 20 = .ok (.istore 5, 2) := by decide +kernel
theorem dX8_clashes_22 : decode cX8_clashes 22 = .ok (.iload 5, 2) := by decide +kernel
theorem dX8_clashes_24 : decode cX8_clashes 24 = .ok (.iload_n 3, 1) := by decide +kernel
theorem dX8_clashes_25 : decode cX8_clashes 25 = .ok (.if_icmp .ge 31, 3) := by decide +kernel
theorem dX8_clashes_28 : decode cX8_clashes 28 = .ok (.aload_n 0, 1) := by decide +kernel
theorem dX8_clashes_29 : decode cX8_clashes 29 = .ok (.getfield 19, 3) := by decide +kernel
theorem dX8_clashes_32 : decode cX8_clashes 32 = .ok (.lload_n 1, 1) := by decide +kernel
theorem dX8_clashes_33 : decode cX8_clashes 33 = .ok (.iload 5, 2) := by decide +kernel
theorem dX8_clashes_35 : decode cX8_clashes 35 = .ok (.i2l, 1) := by decide +kernel
theorem dX8_clashes_36 : decode cX8_clashes 36 = .ok (.ladd, 1) := by decide +kernel
theorem dX8_clashes_37 : decode cX8_clashes 37 = .ok (.invokevirtual 229, 3) := by decide +kernel
theorem dX8_clashes_40 : decode cX8_clashes 40 = .ok (.sipush 512, 3) := by decide +kernel
theorem dX8_clashes_43 : decode cX8_clashes 43 = .ok (.iand, 1) := by decide +kernel
theorem dX8_clashes_44 : decode cX8_clashes 44 = .ok (.ifCond .eq 6, 3) := by decide +kernel
theorem dX8_clashes_47 : decode cX8_clashes 47 = .ok (.iinc 4 1, 3) := by decide +kernel
theorem dX8_clashes_50 : decode cX8_clashes 50 = .ok (.iinc 5 1, 3) := by decide +kernel
theorem dX8_clashes_53 : decode cX8_clashes 53 = .ok (.goto (-31), 3) := by decide +kernel
theorem dX8_clashes_56 : decode cX8_clashes 56 = .ok (.iload 4, 2) := by decide +kernel
theorem dX8_clashes_58 : decode cX8_clashes 58 = .ok (.ireturn, 1) := by decide +kernel
theorem dX8_stick_0 : decode cX8_stick 0 = .ok (.iload_n 1, 1) := by decide +kernel
theorem dX8_stick_1 : decode cX8_stick 1 = .ok (.bipush (-4), 2) := by decide +kernel
theorem dX8_stick_3 : decode cX8_stick 3 = .ok (.if_icmp .ne 15, 3) := by decide +kernel
theorem dX8_stick_6 : decode cX8_stick 6 = .ok (.iload_n 2, 1) := by decide +kernel
theorem dX8_stick_7 : decode cX8_stick 7 = .ok (.ifCond .ne 11, 3) := by decide +kernel
theorem dX8_stick_10 : decode cX8_stick 10 = .ok (.iload_n 3, 1) := by decide +kernel
theorem dX8_stick_11 : decode cX8_stick 11 = .ok (.ifCond .ne 7, 3) := by decide +kernel
theorem dX8_stick_14 : decode cX8_stick 14 = .ok (.iconst 1, 1) := by decide +kernel
theorem dX8_stick_15 : decode cX8_stick 15 = .ok (.goto 4, 3) := by decide +kernel
theorem dX8_stick_18 : decode cX8_stick 18 = .ok (.iconst 0, 1) := by decide +kernel
theorem dX8_stick_19 : decode cX8_stick 19 = .ok (.istore 4, 2) := by decide +kernel
theorem dX8_stick_21 : decode cX8_stick 21 = .ok (.iload 4, 2) := by decide +kernel
theorem dX8_stick_23 : decode cX8_stick 23 = .ok (.ifCond .ne 28, 3) := by decide +kernel
theorem dX8_stick_26 : decode cX8_stick 26 = .ok (.iload_n 1, 1) := by decide +kernel
theorem dX8_stick_27 : decode cX8_stick 27 = .ok (.invokestatic 232, 3) := by decide +kernel
theorem dX8_stick_30 : decode cX8_stick 30 = .ok (.ifCond .eq 19, 3) := by decide +kernel
theorem dX8_stick_33 : decode cX8_stick 33 = .ok (.iload_n 2, 1) := by decide +kernel
theorem dX8_stick_34 : decode cX8_stick 34 = .ok (.ifCond .lt 15, 3) := by decide +kernel
theorem dX8_stick_37 : decode cX8_stick 37 = .ok (.iload_n 3, 1) := by decide +kernel
theorem dX8_stick_38 : decode cX8_stick 38 = .ok (.iload_n 2, 1) := by decide +kernel
theorem dX8_stick_39 : decode cX8_stick 39 = .ok (.if_icmp .lt 10, 3) := by decide +kernel
theorem dX8_stick_42 : decode cX8_stick 42 = .ok (.iload_n 3, 1) := by decide +kernel
theorem dX8_stick_43 : decode cX8_stick 43 = .ok (.sipush 365, 3) := by decide +kernel
theorem dX8_stick_46 : decode cX8_stick 46 = .ok (.if_icmp .le 5, 3) := by decide +kernel
theorem dX8_stick_49 : decode cX8_stick 49 = .ok (.iconst (-1), 1) := by decide +kernel
theorem dX8_stick_50 : decode cX8_stick 50 = .ok (.ireturn, 1) := by decide +kernel
theorem dX8_stick_51 : decode cX8_stick 51 = .ok (.aload_n 0, 1) := by decide +kernel
theorem dX8_stick_52 : decode cX8_stick 52 = .ok (.getfield 19, 3) := by decide +kernel
theorem dX8_stick_55 : decode cX8_stick 55 = .ok (.getfield 101, 3) := by decide +kernel
theorem dX8_stick_58 : decode cX8_stick 58 = .ok (.bipush (-4), 2) := by decide +kernel
theorem dX8_stick_60 : decode cX8_stick 60 = .ok (.if_icmp .ne 7, 3) := by decide +kernel
theorem dX8_stick_63 : decode cX8_stick 63 = .ok (.iconst 0, 1) := by decide +kernel
theorem dX8_stick_64 : decode cX8_stick 64 = .ok (.goto 4, 3) := by decide +kernel
theorem dX8_stick_67 : decode cX8_stick 67 = .ok (.iconst 1, 1) := by decide +kernel
theorem dX8_stick_68 : decode cX8_stick 68 = .ok (.istore 5, 2) := by decide +kernel
theorem dX8_stick_70 : decode cX8_stick 70 = .ok (.iload 4, 2) := by decide +kernel
theorem dX8_stick_72 : decode cX8_stick 72 = .ok (.ifCond .eq 13, 3) := by decide +kernel
theorem dX8_stick_75 : decode cX8_stick 75 = .ok (.aload_n 0, 1) := by decide +kernel
theorem dX8_stick_76 : decode cX8_stick 76 = .ok (.getfield 19, 3) := by decide +kernel
theorem dX8_stick_79 : decode cX8_stick 79 = .ok (.invokevirtual 235, 3) := by decide +kernel
theorem dX8_stick_82 : decode cX8_stick 82 = .ok (.goto 13, 3) := by decide +kernel
theorem dX8_stick_85 : decode cX8_stick 85 = .ok (.aload_n 0, 1) := by decide +kernel
theorem dX8_stick_86 : decode cX8_stick 86 = .ok (.getfield 19, 3) := by decide +kernel
theorem dX8_stick_89 : decode cX8_stick 89 = .ok (.iload_n 1, 1) := by decide +kernel
theorem dX8_stick_90 : decode cX8_stick 90 = .ok (.iload_n 2, 1) := by decide +kernel
theorem dX8_stick_91 : decode cX8_stick 91 = .ok (.iload_n 3, 1) := by decide +kernel
theorem dX8_stick_92 : decode cX8_stick 92 = .ok (.invokevirtual 238, 3) := by decide +kernel
theorem dX8_stick_95 : decode cX8_stick 95 = .ok (.iload 5, 2) := by decide +kernel
theorem dX8_stick_97 : decode cX8_stick 97 = .ok (.ireturn, 1) := by decide +kernel
theorem dX8_cut_0 : decode cX8_cut 0 = .ok (.aload_n 0, 1) := by decide +kernel
theorem dX8_cut_1 : decode cX8_cut 1 = .ok (.iload_n 1, 1) := by decide +kernel
theorem dX8_cut_2 : decode cX8_cut 2 = .ok (.invokevirtual 116, 3) := by decide +kernel
theorem dX8_cut_5 : decode cX8_cut 5 = .ok (.ifCond .eq 10, 3) := by decide +kernel
theorem dX8_cut_8 : decode cX8_cut 8 = .ok (.iload_n 2, 1) := by decide +kernel
theorem dX8_cut_9 : decode cX8_cut 9 = .ok (.invokestatic 207, 3) := by decide +kernel
theorem dX8_cut_12 : decode cX8_cut 12 = .ok (.ifCond .ne 5, 3) := by decide +kernel
theorem dX8_cut_15 : decode cX8_cut 15 = .ok (.iconst (-1), 1) := by decide +kernel
theorem dX8_cut_16 : decode cX8_cut 16 = .ok (.ireturn, 1) := by decide +kernel
theorem dX8_cut_17 : decode cX8_cut 17 = .ok (.aload_n 0, 1) := by decide +kernel
theorem dX8_cut_18 : decode cX8_cut 18 = .ok (.getfield 19, 3) := by decide +kernel
theorem dX8_cut_21 : decode cX8_cut 21 = .ok (.iload_n 1, 1) := by decide +kernel
theorem dX8_cut_22 : decode cX8_cut 22 = .ok (.aload_n 0, 1) := by decide +kernel
theorem dX8_cut_23 : decode cX8_cut 23 = .ok (.getfield 50, 3) := by decide +kernel
theorem dX8_cut_26 : decode cX8_cut 26 = .ok (.invokevirtual 242, 3) := by decide +kernel
theorem dX8_cut_29 : decode cX8_cut 29 = .ok (.ifCond .ne 6, 3) := by decide +kernel
theorem dX8_cut_32 : decode cX8_cut 32 = .ok (.bipush (-4), 2) := by decide +kernel
theorem dX8_cut_34 : decode cX8_cut 34 = .ok (.ireturn, 1) := by decide +kernel
theorem dX8_cut_35 : decode cX8_cut 35 = .ok (.iload_n 2, 1) := by decide +kernel
theorem dX8_cut_36 : decode cX8_cut 36 = .ok (.ifCond .ne 13, 3) := by decide +kernel
theorem dX8_cut_39 : decode cX8_cut 39 = .ok (.aload_n 0, 1) := by decide +kernel
theorem dX8_cut_40 : decode cX8_cut 40 = .ok (.getfield 50, 3) := by decide +kernel
theorem dX8_cut_43 : decode cX8_cut 43 = .ok (.getfield 127, 3) := by decide +kernel
theorem dX8_cut_46 : decode cX8_cut 46 = .ok (.goto 10, 3) := by decide +kernel
theorem dX8_cut_49 : decode cX8_cut 49 = .ok (.aload_n 0, 1) := by decide +kernel
theorem dX8_cut_50 : decode cX8_cut 50 = .ok (.getfield 50, 3) := by decide +kernel
theorem dX8_cut_53 : decode cX8_cut 53 = .ok (.getfield 130, 3) := by decide +kernel
theorem dX8_cut_56 : decode cX8_cut 56 = .ok (.ireturn, 1) := by decide +kernel
theorem dX8_turn_0 : decode cX8_turn 0 = .ok (.aload_n 0, 1) := by decide +kernel
theorem dX8_turn_1 : decode cX8_turn 1 = .ok (.iload_n 1, 1) := by decide +kernel
theorem dX8_turn_2 : decode cX8_turn 2 = .ok (.invokevirtual 116, 3) := by decide +kernel
theorem dX8_turn_5 : decode cX8_turn 5 = .ok (.ifCond .ne 5, 3) := by decide +kernel
theorem dX8_turn_8 : decode cX8_turn 8 = .ok (.iconst (-1), 1) := by decide +kernel
theorem dX8_turn_9 : decode cX8_turn 9 = .ok (.ireturn, 1) := by decide +kernel
theorem dX8_turn_10 : decode cX8_turn 10 = .ok (.aload_n 0, 1) := by decide +kernel
theorem dX8_turn_11 : decode cX8_turn 11 = .ok (.getfield 19, 3) := by decide +kernel
theorem dX8_turn_14 : decode cX8_turn 14 = .ok (.getfield 120, 3) := by decide +kernel
theorem dX8_turn_17 : decode cX8_turn 17 = .ok (.iload_n 1, 1) := by decide +kernel
theorem dX8_turn_18 : decode cX8_turn 18 = .ok (.aaload, 1) := by decide +kernel
theorem dX8_turn_19 : decode cX8_turn 19 = .ok (.astore_n 2, 1) := by decide +kernel
theorem dX8_turn_20 : decode cX8_turn 20 = .ok (.aload_n 0, 1) := by decide +kernel
theorem dX8_turn_21 : decode cX8_turn 21 = .ok (.getfield 50, 3) := by decide +kernel
theorem dX8_turn_24 : decode cX8_turn 24 = .ok (.aload_n 2, 1) := by decide +kernel
theorem dX8_turn_25 : decode cX8_turn 25 = .ok (.invokevirtual 246, 3) := by decide +kernel
theorem dX8_turn_28 : decode cX8_turn 28 = .ok (.aload_n 0, 1) := by decide +kernel
theorem dX8_turn_29 : decode cX8_turn 29 = .ok (.getfield 19, 3) := by decide +kernel
theorem dX8_turn_32 : decode cX8_turn 32 = .ok (.iload_n 1, 1) := by decide +kernel
theorem dX8_turn_33 : decode cX8_turn 33 = .ok (.aload_n 0, 1) := by decide +kernel
theorem dX8_turn_34 : decode cX8_turn 34 = .ok (.getfield 50, 3) := by decide +kernel
theorem dX8_turn_37 : decode cX8_turn 37 = .ok (.invokevirtual 249, 3) := by decide +kernel
theorem dX8_turn_40 : decode cX8_turn 40 = .ok (.lstore_n 3, 1) := by decide +kernel
theorem dX8_turn_41 : decode cX8_turn 41 = .ok (.iconst 0, 1) := by decide +kernel
theorem dX8_turn_42 : decode cX8_turn 42 = .ok (.istore 5, 2) := by decide +kernel
theorem dX8_turn_44 : decode cX8_turn 44 = .ok (.iload 5, 2) := by decide +kernel
theorem dX8_turn_46 : decode cX8_turn 46 = .ok (.aload_n 2, 1) := by decide +kernel
theorem dX8_turn_47 : decode cX8_turn 47 = .ok (.getfield 127, 3) := by decide +kernel
theorem dX8_turn_50 : decode cX8_turn 50 = .ok (.if_icmp .ge 42, 3) := by decide +kernel
theorem dX8_turn_53 : decode cX8_turn 53 = .ok (.aload_n 2, 1) := by decide +kernel
theorem dX8_turn_54 : decode cX8_turn 54 = .ok (.getfield 130, 3) := by decide +kernel
theorem dX8_turn_57 : decode cX8_turn 57 = .ok (.iload 5, 2) := by decide +kernel
theorem dX8_turn_59 : decode cX8_turn 59 = .ok (.iadd, 1) := by decide +kernel
theorem dX8_turn_60 : decode cX8_turn 60 = .ok (.i2l, 1) := by decide +kernel
theorem dX8_turn_61 : decode cX8_turn 61 = .ok (.aload_n 2, 1) := by decide +kernel
theorem dX8_turn_62 : decode cX8_turn 62 = .ok (.getfield 127, 3) := by decide +kernel
theorem dX8_turn_65 : decode cX8_turn 65 = .ok (.i2l, 1) := by decide +kernel
theorem dX8_turn_66 : decode cX8_turn 66 = .ok (.invokestatic 181, 3) := by decide +kernel
theorem dX8_turn_69 : decode cX8_turn 69 = .ok (.l2i, 1) := by decide +kernel
theorem dX8_turn_70 : decode cX8_turn 70 = .ok (.istore 6, 2) := by decide +kernel
theorem dX8_turn_72 : decode cX8_turn 72 = .ok (.lload_n 3, 1) := by decide +kernel
theorem dX8_turn_73 : decode cX8_turn 73 = .ok (.iload 6, 2) := by decide +kernel
theorem dX8_turn_75 : decode cX8_turn 75 = .ok (.lushr, 1) := by decide +kernel
theorem dX8_turn_76 : decode cX8_turn 76 = .ok (.lconst 1, 1) := by decide +kernel
theorem dX8_turn_77 : decode cX8_turn 77 = .ok (.land, 1) := by decide +kernel
theorem dX8_turn_78 : decode cX8_turn 78 = .ok (.lconst 0, 1) := by decide +kernel
theorem dX8_turn_79 : decode cX8_turn 79 = .ok (.lcmp, 1) := by decide +kernel
theorem dX8_turn_80 : decode cX8_turn 80 = .ok (.ifCond .eq 6, 3) := by decide +kernel
theorem dX8_turn_83 : decode cX8_turn 83 = .ok (.iload 6, 2) := by decide +kernel
theorem dX8_turn_85 : decode cX8_turn 85 = .ok (.ireturn, 1) := by decide +kernel
theorem dX8_turn_86 : decode cX8_turn 86 = .ok (.iinc 5 1, 3) := by decide +kernel
theorem dX8_turn_89 : decode cX8_turn 89 = .ok (.goto (-45), 3) := by decide +kernel
theorem dX8_turn_92 : decode cX8_turn 92 = .ok (.bipush (-4), 2) := by decide +kernel
theorem dX8_turn_94 : decode cX8_turn 94 = .ok (.ireturn, 1) := by decide +kernel
theorem dX8_recut_0 : decode cX8_recut 0 = .ok (.aload_n 0, 1) := by decide +kernel
theorem dX8_recut_1 : decode cX8_recut 1 = .ok (.iload_n 1, 1) := by decide +kernel
theorem dX8_recut_2 : decode cX8_recut 2 = .ok (.invokevirtual 116, 3) := by decide +kernel
theorem dX8_recut_5 : decode cX8_recut 5 = .ok (.ifCond .eq 27, 3) := by decide +kernel
theorem dX8_recut_8 : decode cX8_recut 8 = .ok (.iload_n 2, 1) := by decide +kernel
theorem dX8_recut_9 : decode cX8_recut 9 = .ok (.iload_n 3, 1) := by decide +kernel
theorem dX8_recut_10 : decode cX8_recut 10 = .ok (.invokestatic 253, 3) := by decide +kernel
theorem dX8_recut_13 : decode cX8_recut 13 = .ok (.ifCond .eq 19, 3) := by decide +kernel
theorem dX8_recut_16 : decode cX8_recut 16 = .ok (.aload_n 0, 1) := by decide +kernel
theorem dX8_recut_17 : decode cX8_recut 17 = .ok (.getfield 19, 3) := by decide +kernel
theorem dX8_recut_20 : decode cX8_recut 20 = .ok (.getfield 120, 3) := by decide +kernel
theorem dX8_recut_23 : decode cX8_recut 23 = .ok (.iload_n 1, 1) := by decide +kernel
theorem dX8_recut_24 : decode cX8_recut 24 = .ok (.aaload, 1) := by decide +kernel
theorem dX8_recut_25 : decode cX8_recut 25 = .ok (.getfield 139, 3) := by decide +kernel
theorem dX8_recut_28 : decode cX8_recut 28 = .ok (.iload_n 2, 1) := by decide +kernel
theorem dX8_recut_29 : decode cX8_recut 29 = .ok (.if_icmp .lt 5, 3) := by decide +kernel
theorem dX8_recut_32 : decode cX8_recut 32 = .ok (.iconst (-1), 1) := by decide +kernel
theorem dX8_recut_33 : decode cX8_recut 33 = .ok (.ireturn, 1) := by decide +kernel
theorem dX8_recut_34 : decode cX8_recut 34 = .ok (.aload_n 0, 1) := by decide +kernel
theorem dX8_recut_35 : decode cX8_recut 35 = .ok (.getfield 19, 3) := by decide +kernel
theorem dX8_recut_38 : decode cX8_recut 38 = .ok (.getfield 120, 3) := by decide +kernel
theorem dX8_recut_41 : decode cX8_recut 41 = .ok (.iload_n 1, 1) := by decide +kernel
theorem dX8_recut_42 : decode cX8_recut 42 = .ok (.aaload, 1) := by decide +kernel
theorem dX8_recut_43 : decode cX8_recut 43 = .ok (.astore 4, 2) := by decide +kernel
theorem dX8_recut_45 : decode cX8_recut 45 = .ok (.aload 4, 2) := by decide +kernel
theorem dX8_recut_47 : decode cX8_recut 47 = .ok (.getfield 127, 3) := by decide +kernel
theorem dX8_recut_50 : decode cX8_recut 50 = .ok (.istore 5, 2) := by decide +kernel
theorem dX8_recut_52 : decode cX8_recut 52 = .ok (.aload 4, 2) := by decide +kernel
theorem dX8_recut_54 : decode cX8_recut 54 = .ok (.iload_n 2, 1) := by decide +kernel
theorem dX8_recut_55 : decode cX8_recut 55 = .ok (.putfield 127, 3) := by decide +kernel
theorem dX8_recut_58 : decode cX8_recut 58 = .ok (.aload 4, 2) := by decide +kernel
theorem dX8_recut_60 : decode cX8_recut 60 = .ok (.iload_n 3, 1) := by decide +kernel
theorem dX8_recut_61 : decode cX8_recut 61 = .ok (.putfield 130, 3) := by decide +kernel
theorem dX8_recut_64 : decode cX8_recut 64 = .ok (.iload 5, 2) := by decide +kernel
theorem dX8_recut_66 : decode cX8_recut 66 = .ok (.ireturn, 1) := by decide +kernel
theorem dX8_mend_0 : decode cX8_mend 0 = .ok (.iload_n 1, 1) := by decide +kernel
theorem dX8_mend_1 : decode cX8_mend 1 = .ok (.invokestatic 207, 3) := by decide +kernel
theorem dX8_mend_4 : decode cX8_mend 4 = .ok (.ifCond .ne 5, 3) := by decide +kernel
theorem dX8_mend_7 : decode cX8_mend 7 = .ok (.iconst (-1), 1) := by decide +kernel
theorem dX8_mend_8 : decode cX8_mend 8 = .ok (.ireturn, 1) := by decide +kernel
theorem dX8_mend_9 : decode cX8_mend 9 = .ok (.iconst 0, 1) := by decide +kernel
theorem dX8_mend_10 : decode cX8_mend 10 = .ok (.istore_n 2, 1) := by decide +kernel
theorem dX8_mend_11 : decode cX8_mend 11 = .ok (.iload_n 2, 1) := by decide +kernel
theorem dX8_mend_12 : decode cX8_mend 12 = .ok (.aload_n 0, 1) := by decide +kernel
theorem dX8_mend_13 : decode cX8_mend 13 = .ok (.getfield 19, 3) := by decide +kernel
theorem dX8_mend_16 : decode cX8_mend 16 = .ok (.getfield 98, 3) := by decide +kernel
theorem dX8_mend_19 : decode cX8_mend 19 = .ok (.if_icmp .ge 45, 3) := by decide +kernel
theorem dX8_mend_22 : decode cX8_mend 22 = .ok (.aload_n 0, 1) := by decide +kernel
theorem dX8_mend_23 : decode cX8_mend 23 = .ok (.getfield 54, 3) := by decide +kernel
theorem dX8_mend_26 : decode cX8_mend 26 = .ok (.iload_n 2, 1) := by decide +kernel
theorem dX8_mend_27 : decode cX8_mend 27 = .ok (.aload_n 0, 1) := by decide +kernel
theorem dX8_mend_28 : decode cX8_mend 28 = .ok (.getfield 19, 3) := by decide +kernel
theorem dX8_mend_31 : decode cX8_mend 31 = .ok (.getfield 120, 3) := by decide +kernel
theorem dX8_mend_34 : decode cX8_mend 34 = .ok (.iload_n 2, 1) := by decide +kernel
theorem dX8_mend_35 : decode cX8_mend 35 = .ok (.aaload, 1) := by decide +kernel
theorem dX8_mend_36 : decode cX8_mend 36 = .ok (.getfield 127, 3) := by decide +kernel
theorem dX8_mend_39 : decode cX8_mend 39 = .ok (.iastore, 1) := by decide +kernel
theorem dX8_mend_40 : decode cX8_mend 40 = .ok (.aload_n 0, 1) := by decide +kernel
theorem dX8_mend_41 : decode cX8_mend 41 = .ok (.getfield 58, 3) := by decide +kernel
theorem dX8_mend_44 : decode cX8_mend 44 = .ok (.iload_n 2, 1) := by decide +kernel
theorem dX8_mend_45 : decode cX8_mend 45 = .ok (.aload_n 0, 1) := by decide +kernel
theorem dX8_mend_46 : decode cX8_mend 46 = .ok (.getfield 19, 3) := by decide +kernel
theorem dX8_mend_49 : decode cX8_mend 49 = .ok (.getfield 120, 3) := by decide +kernel
theorem dX8_mend_52 : decode cX8_mend 52 = .ok (.iload_n 2, 1) := by decide +kernel
theorem dX8_mend_53 : decode cX8_mend 53 = .ok (.aaload, 1) := by decide +kernel
theorem dX8_mend_54 : decode cX8_mend 54 = .ok (.getfield 130, 3) := by decide +kernel
theorem dX8_mend_57 : decode cX8_mend 57 = .ok (.iastore, 1) := by decide +kernel
theorem dX8_mend_58 : decode cX8_mend 58 = .ok (.iinc 2 1, 3) := by decide +kernel
theorem dX8_mend_61 : decode cX8_mend 61 = .ok (.goto (-50), 3) := by decide +kernel
theorem dX8_mend_64 : decode cX8_mend 64 = .ok (.iconst 0, 1) := by decide +kernel
theorem dX8_mend_65 : decode cX8_mend 65 = .ok (.istore_n 2, 1) := by decide +kernel
theorem dX8_mend_66 : decode cX8_mend 66 = .ok (.iconst 0, 1) := by decide +kernel
theorem dX8_mend_67 : decode cX8_mend 67 = .ok (.istore_n 3, 1) := by decide +kernel
theorem dX8_mend_68 : decode cX8_mend 68 = .ok (.iload_n 3, 1) := by decide +kernel
theorem dX8_mend_69 : decode cX8_mend 69 = .ok (.aload_n 0, 1) := by decide +kernel
theorem dX8_mend_70 : decode cX8_mend 70 = .ok (.getfield 19, 3) := by decide +kernel
theorem dX8_mend_73 : decode cX8_mend 73 = .ok (.getfield 98, 3) := by decide +kernel
theorem dX8_mend_76 : decode cX8_mend 76 = .ok (.if_icmp .ge 54, 3) := by decide +kernel
theorem dX8_mend_79 : decode cX8_mend 79 = .ok (.aload_n 0, 1) := by decide +kernel
theorem dX8_mend_80 : decode cX8_mend 80 = .ok (.getfield 19, 3) := by decide +kernel
theorem dX8_mend_83 : decode cX8_mend 83 = .ok (.iload_n 3, 1) := by decide +kernel
theorem dX8_mend_84 : decode cX8_mend 84 = .ok (.invokevirtual 204, 3) := by decide +kernel
theorem dX8_mend_87 : decode cX8_mend 87 = .ok (.ifCond .eq 37, 3) := by decide +kernel
theorem dX8_mend_90 : decode cX8_mend 90 = .ok (.aload_n 0, 1) := by decide +kernel
theorem dX8_mend_91 : decode cX8_mend 91 = .ok (.getfield 19, 3) := by decide +kernel
theorem dX8_mend_94 : decode cX8_mend 94 = .ok (.iload_n 3, 1) := by decide +kernel
theorem dX8_mend_95 : decode cX8_mend 95 = .ok (.aload_n 0, 1) := by decide +kernel
theorem dX8_mend_96 : decode cX8_mend 96 = .ok (.getfield 50, 3) := by decide +kernel
theorem dX8_mend_99 : decode cX8_mend 99 = .ok (.invokevirtual 242, 3) := by decide +kernel
theorem dX8_mend_102 : decode cX8_mend 102 = .ok (.ifCond .eq 22, 3) := by decide +kernel
theorem dX8_mend_105 : decode cX8_mend 105 = .ok (.aload_n 0, 1) := by decide +kernel
theorem dX8_mend_106 : decode cX8_mend 106 = .ok (.getfield 19, 3) := by decide +kernel
theorem dX8_mend_109 : decode cX8_mend 109 = .ok (.getfield 120, 3) := by decide +kernel
theorem dX8_mend_112 : decode cX8_mend 112 = .ok (.iload_n 3, 1) := by decide +kernel
theorem dX8_mend_113 : decode cX8_mend 113 = .ok (.aaload, 1) := by decide +kernel
theorem dX8_mend_114 : decode cX8_mend 114 = .ok (.aload_n 0, 1) := by decide +kernel
theorem dX8_mend_115 : decode cX8_mend 115 = .ok (.getfield 50, 3) := by decide +kernel
theorem dX8_mend_118 : decode cX8_mend 118 = .ok (.invokevirtual 246, 3) := by decide +kernel
theorem dX8_mend_121 : decode cX8_mend 121 = .ok (.iinc 2 1, 3) := by decide +kernel
theorem dX8_mend_124 : decode cX8_mend 124 = .ok (.iinc 3 1, 3) := by decide +kernel
theorem dX8_mend_127 : decode cX8_mend 127 = .ok (.goto (-59), 3) := by decide +kernel
theorem dX8_mend_130 : decode cX8_mend 130 = .ok (.aload_n 0, 1) := by decide +kernel
theorem dX8_mend_131 : decode cX8_mend 131 = .ok (.getfield 19, 3) := by decide +kernel
theorem dX8_mend_134 : decode cX8_mend 134 = .ok (.invokevirtual 256, 3) := by decide +kernel
theorem dX8_mend_137 : decode cX8_mend 137 = .ok (.istore_n 3, 1) := by decide +kernel
theorem dX8_mend_138 : decode cX8_mend 138 = .ok (.iconst 0, 1) := by decide +kernel
theorem dX8_mend_139 : decode cX8_mend 139 = .ok (.istore 4, 2) := by decide +kernel
theorem dX8_mend_141 : decode cX8_mend 141 = .ok (.iload 4, 2) := by decide +kernel
theorem dX8_mend_143 : decode cX8_mend 143 = .ok (.aload_n 0, 1) := by decide +kernel
theorem dX8_mend_144 : decode cX8_mend 144 = .ok (.getfield 19, 3) := by decide +kernel
theorem dX8_mend_147 : decode cX8_mend 147 = .ok (.getfield 98, 3) := by decide +kernel
theorem dX8_mend_150 : decode cX8_mend 150 = .ok (.if_icmp .ge 49, 3) := by decide +kernel
theorem dX8_mend_153 : decode cX8_mend 153 = .ok (.aload_n 0, 1) := by decide +kernel
theorem dX8_mend_154 : decode cX8_mend 154 = .ok (.getfield 19, 3) := by decide +kernel
theorem dX8_mend_157 : decode cX8_mend 157 = .ok (.getfield 120, 3) := by decide +kernel
theorem dX8_mend_160 : decode cX8_mend 160 = .ok (.iload 4, 2) := by decide +kernel
theorem dX8_mend_162 : decode cX8_mend 162 = .ok (.aaload, 1) := by decide +kernel
theorem dX8_mend_163 : decode cX8_mend 163 = .ok (.aload_n 0, 1) := by decide +kernel
theorem dX8_mend_164 : decode cX8_mend 164 = .ok (.getfield 54, 3) := by decide +kernel
theorem dX8_mend_167 : decode cX8_mend 167 = .ok (.iload 4, 2) := by decide +kernel
theorem dX8_mend_169 : decode cX8_mend 169 = .ok (.iaload, 1) := by decide +kernel
theorem dX8_mend_170 : decode cX8_mend 170 = .ok (.putfield 127, 3) := by decide +kernel
theorem dX8_mend_173 : decode cX8_mend 173 = .ok (.aload_n 0, 1) := by decide +kernel
theorem dX8_mend_174 : decode cX8_mend 174 = .ok (.getfield 19, 3) := by decide +kernel
theorem dX8_mend_177 : decode cX8_mend 177 = .ok (.getfield 120, 3) := by decide +kernel
theorem dX8_mend_180 : decode cX8_mend 180 = .ok (.iload 4, 2) := by decide +kernel
theorem dX8_mend_182 : decode cX8_mend 182 = .ok (.aaload, 1) := by decide +kernel
theorem dX8_mend_183 : decode cX8_mend 183 = .ok (.aload_n 0, 1) := by decide +kernel
theorem dX8_mend_184 : decode cX8_mend 184 = .ok (.getfield 58, 3) := by decide +kernel
theorem dX8_mend_187 : decode cX8_mend 187 = .ok (.iload 4, 2) := by decide +kernel
theorem dX8_mend_189 : decode cX8_mend 189 = .ok (.iaload, 1) := by decide +kernel
theorem dX8_mend_190 : decode cX8_mend 190 = .ok (.putfield 130, 3) := by decide +kernel
theorem dX8_mend_193 : decode cX8_mend 193 = .ok (.iinc 4 1, 3) := by decide +kernel
theorem dX8_mend_196 : decode cX8_mend 196 = .ok (.goto (-55), 3) := by decide +kernel
theorem dX8_mend_199 : decode cX8_mend 199 = .ok (.iload_n 1, 1) := by decide +kernel
theorem dX8_mend_200 : decode cX8_mend 200 = .ok (.ifCond .ne 7, 3) := by decide +kernel
theorem dX8_mend_203 : decode cX8_mend 203 = .ok (.iload_n 2, 1) := by decide +kernel
theorem dX8_mend_204 : decode cX8_mend 204 = .ok (.goto 4, 3) := by decide +kernel
theorem dX8_mend_207 : decode cX8_mend 207 = .ok (.iload_n 3, 1) := by decide +kernel
theorem dX8_mend_208 : decode cX8_mend 208 = .ok (.ireturn, 1) := by decide +kernel
theorem dX8_hold_0 : decode cX8_hold 0 = .ok (.iload_n 1, 1) := by decide +kernel
theorem dX8_hold_1 : decode cX8_hold 1 = .ok (.ifCond .lt 14, 3) := by decide +kernel
theorem dX8_hold_4 : decode cX8_hold 4 = .ok (.iload_n 1, 1) := by decide +kernel
theorem dX8_hold_5 : decode cX8_hold 5 = .ok (.aload_n 0, 1) := by decide +kernel
theorem dX8_hold_6 : decode cX8_hold 6 = .ok (.getfield 19, 3) := by decide +kernel
theorem dX8_hold_9 : decode cX8_hold 9 = .ok (.getfield 113, 3) := by decide +kernel
theorem dX8_hold_12 : decode cX8_hold 12 = .ok (.if_icmp .le 5, 3) := by decide +kernel
theorem dX8_hold_15 : decode cX8_hold 15 = .ok (.iconst (-1), 1) := by decide +kernel
theorem dX8_hold_16 : decode cX8_hold 16 = .ok (.ireturn, 1) := by decide +kernel
theorem dX8_hold_17 : decode cX8_hold 17 = .ok (.aload_n 0, 1) := by decide +kernel
theorem dX8_hold_18 : decode cX8_hold 18 = .ok (.getfield 19, 3) := by decide +kernel
theorem dX8_hold_21 : decode cX8_hold 21 = .ok (.iload_n 1, 1) := by decide +kernel
theorem dX8_hold_22 : decode cX8_hold 22 = .ok (.invokevirtual 259, 3) := by decide +kernel
theorem dX8_hold_25 : decode cX8_hold 25 = .ok (.aload_n 0, 1) := by decide +kernel
theorem dX8_hold_26 : decode cX8_hold 26 = .ok (.getfield 19, 3) := by decide +kernel
theorem dX8_hold_29 : decode cX8_hold 29 = .ok (.invokevirtual 256, 3) := by decide +kernel
theorem dX8_hold_32 : decode cX8_hold 32 = .ok (.ireturn, 1) := by decide +kernel
theorem dX8_ask_0 : decode cX8_ask 0 = .ok (.iload_n 1, 1) := by decide +kernel
theorem dX8_ask_1 : decode cX8_ask 1 = .ok (.aload_n 0, 1) := by decide +kernel
theorem dX8_ask_2 : decode cX8_ask 2 = .ok (.getfield 19, 3) := by decide +kernel
theorem dX8_ask_5 : decode cX8_ask 5 = .ok (.invokevirtual 263, 3) := by decide +kernel
theorem dX8_ask_8 : decode cX8_ask 8 = .ok (.if_icmp .lt 34, 3) := by decide +kernel
theorem dX8_ask_11 : decode cX8_ask 11 = .ok (.iload_n 1, 1) := by decide +kernel
theorem dX8_ask_12 : decode cX8_ask 12 = .ok (.bipush 99, 2) := by decide +kernel
theorem dX8_ask_14 : decode cX8_ask 14 = .ok (.if_icmp .gt 28, 3) := by decide +kernel
theorem dX8_ask_17 : decode cX8_ask 17 = .ok (.aload_n 0, 1) := by decide +kernel
theorem dX8_ask_18 : decode cX8_ask 18 = .ok (.iload_n 2, 1) := by decide +kernel
theorem dX8_ask_19 : decode cX8_ask 19 = .ok (.invokevirtual 116, 3) := by decide +kernel
theorem dX8_ask_22 : decode cX8_ask 22 = .ok (.ifCond .eq 20, 3) := by decide +kernel
theorem dX8_ask_25 : decode cX8_ask 25 = .ok (.iload_n 3, 1) := by decide +kernel
theorem dX8_ask_26 : decode cX8_ask 26 = .ok (.iload 4, 2) := by decide +kernel
theorem dX8_ask_28 : decode cX8_ask 28 = .ok (.invokestatic 253, 3) := by decide +kernel
theorem dX8_ask_31 : decode cX8_ask 31 = .ok (.ifCond .eq 11, 3) := by decide +kernel
theorem dX8_ask_34 : decode cX8_ask 34 = .ok (.iload 5, 2) := by decide +kernel
theorem dX8_ask_36 : decode cX8_ask 36 = .ok (.invokestatic 232, 3) := by decide +kernel
theorem dX8_ask_39 : decode cX8_ask 39 = .ok (.ifCond .ne 5, 3) := by decide +kernel
theorem dX8_ask_42 : decode cX8_ask 42 = .ok (.iconst (-1), 1) := by decide +kernel
theorem dX8_ask_43 : decode cX8_ask 43 = .ok (.ireturn, 1) := by decide +kernel
theorem dX8_ask_44 : decode cX8_ask 44 = .ok (.aload_n 0, 1) := by decide +kernel
theorem dX8_ask_45 : decode cX8_ask 45 = .ok (.getfield 19, 3) := by decide +kernel
theorem dX8_ask_48 : decode cX8_ask 48 = .ok (.getfield 113, 3) := by decide +kernel
theorem dX8_ask_51 : decode cX8_ask 51 = .ok (.bipush 6, 2) := by decide +kernel
theorem dX8_ask_53 : decode cX8_ask 53 = .ok (.if_icmp .lt 6, 3) := by decide +kernel
theorem dX8_ask_56 : decode cX8_ask 56 = .ok (.bipush (-3), 2) := by decide +kernel
theorem dX8_ask_58 : decode cX8_ask 58 = .ok (.ireturn, 1) := by decide +kernel
theorem dX8_ask_59 : decode cX8_ask 59 = .ok (.aload_n 0, 1) := by decide +kernel
theorem dX8_ask_60 : decode cX8_ask 60 = .ok (.getfield 19, 3) := by decide +kernel
theorem dX8_ask_63 : decode cX8_ask 63 = .ok (.iload_n 1, 1) := by decide +kernel
theorem dX8_ask_64 : decode cX8_ask 64 = .ok (.iload_n 2, 1) := by decide +kernel
theorem dX8_ask_65 : decode cX8_ask 65 = .ok (.iload_n 3, 1) := by decide +kernel
theorem dX8_ask_66 : decode cX8_ask 66 = .ok (.iload 4, 2) := by decide +kernel
theorem dX8_ask_68 : decode cX8_ask 68 = .ok (.iload 5, 2) := by decide +kernel
theorem dX8_ask_70 : decode cX8_ask 70 = .ok (.invokevirtual 266, 3) := by decide +kernel
theorem dX8_ask_73 : decode cX8_ask 73 = .ok (.aload_n 0, 1) := by decide +kernel
theorem dX8_ask_74 : decode cX8_ask 74 = .ok (.getfield 19, 3) := by decide +kernel
theorem dX8_ask_77 : decode cX8_ask 77 = .ok (.getfield 113, 3) := by decide +kernel
theorem dX8_ask_80 : decode cX8_ask 80 = .ok (.ireturn, 1) := by decide +kernel
theorem dX8_see_0 : decode cX8_see 0 = .ok (.aload_n 0, 1) := by decide +kernel
theorem dX8_see_1 : decode cX8_see 1 = .ok (.iload_n 1, 1) := by decide +kernel
theorem dX8_see_2 : decode cX8_see 2 = .ok (.iload_n 2, 1) := by decide +kernel
theorem dX8_see_3 : decode cX8_see 3 = .ok (.iload_n 3, 1) := by decide +kernel
theorem dX8_see_4 : decode cX8_see 4 = .ok (.invokevirtual 270, 3) := by decide +kernel
theorem dX8_see_7 : decode cX8_see 7 = .ok (.ireturn, 1) := by decide +kernel
theorem dX8_forget_0 : decode cX8_forget 0 = .ok (.iload_n 1, 1) := by decide +kernel
theorem dX8_forget_1 : decode cX8_forget 1 = .ok (.ifCond .lt 14, 3) := by decide +kernel
theorem dX8_forget_4 : decode cX8_forget 4 = .ok (.iload_n 1, 1) := by decide +kernel
theorem dX8_forget_5 : decode cX8_forget 5 = .ok (.aload_n 0, 1) := by decide +kernel
theorem dX8_forget_6 : decode cX8_forget 6 = .ok (.getfield 19, 3) := by decide +kernel
theorem dX8_forget_9 : decode cX8_forget 9 = .ok (.getfield 274, 3) := by decide +kernel
theorem dX8_forget_12 : decode cX8_forget 12 = .ok (.if_icmp .le 5, 3) := by decide +kernel
theorem dX8_forget_15 : decode cX8_forget 15 = .ok (.iconst (-1), 1) := by decide +kernel
theorem dX8_forget_16 : decode cX8_forget 16 = .ok (.ireturn, 1) := by decide +kernel
theorem dX8_forget_17 : decode cX8_forget 17 = .ok (.aload_n 0, 1) := by decide +kernel
theorem dX8_forget_18 : decode cX8_forget 18 = .ok (.getfield 19, 3) := by decide +kernel
theorem dX8_forget_21 : decode cX8_forget 21 = .ok (.getfield 274, 3) := by decide +kernel
theorem dX8_forget_24 : decode cX8_forget 24 = .ok (.istore_n 2, 1) := by decide +kernel
theorem dX8_forget_25 : decode cX8_forget 25 = .ok (.aload_n 0, 1) := by decide +kernel
theorem dX8_forget_26 : decode cX8_forget 26 = .ok (.getfield 19, 3) := by decide +kernel
theorem dX8_forget_29 : decode cX8_forget 29 = .ok (.iload_n 1, 1) := by decide +kernel
theorem dX8_forget_30 : decode cX8_forget 30 = .ok (.putfield 274, 3) := by decide +kernel
theorem dX8_forget_33 : decode cX8_forget 33 = .ok (.iload_n 2, 1) := by decide +kernel
theorem dX8_forget_34 : decode cX8_forget 34 = .ok (.ireturn, 1) := by decide +kernel
theorem dX8_error_0 : decode cX8_error 0 = .ok (.aload_n 0, 1) := by decide +kernel
theorem dX8_error_1 : decode cX8_error 1 = .ok (.iload_n 1, 1) := by decide +kernel
theorem dX8_error_2 : decode cX8_error 2 = .ok (.invokevirtual 116, 3) := by decide +kernel
theorem dX8_error_5 : decode cX8_error 5 = .ok (.ifCond .ne 5, 3) := by decide +kernel
theorem dX8_error_8 : decode cX8_error 8 = .ok (.iconst (-1), 1) := by decide +kernel
theorem dX8_error_9 : decode cX8_error 9 = .ok (.ireturn, 1) := by decide +kernel
theorem dX8_error_10 : decode cX8_error 10 = .ok (.aload_n 0, 1) := by decide +kernel
theorem dX8_error_11 : decode cX8_error 11 = .ok (.getfield 19, 3) := by decide +kernel
theorem dX8_error_14 : decode cX8_error 14 = .ok (.getfield 120, 3) := by decide +kernel
theorem dX8_error_17 : decode cX8_error 17 = .ok (.iload_n 1, 1) := by decide +kernel
theorem dX8_error_18 : decode cX8_error 18 = .ok (.aaload, 1) := by decide +kernel
theorem dX8_error_19 : decode cX8_error 19 = .ok (.astore_n 2, 1) := by decide +kernel
theorem dX8_error_20 : decode cX8_error 20 = .ok (.aload_n 0, 1) := by decide +kernel
theorem dX8_error_21 : decode cX8_error 21 = .ok (.getfield 50, 3) := by decide +kernel
theorem dX8_error_24 : decode cX8_error 24 = .ok (.aload_n 2, 1) := by decide +kernel
theorem dX8_error_25 : decode cX8_error 25 = .ok (.invokevirtual 246, 3) := by decide +kernel
theorem dX8_error_28 : decode cX8_error 28 = .ok (.aload_n 0, 1) := by decide +kernel
theorem dX8_error_29 : decode cX8_error 29 = .ok (.getfield 50, 3) := by decide +kernel
theorem dX8_error_32 : decode cX8_error 32 = .ok (.aload_n 2, 1) := by decide +kernel
theorem dX8_error_33 : decode cX8_error 33 = .ok (.getfield 130, 3) := by decide +kernel
theorem dX8_error_36 : decode cX8_error 36 = .ok (.iconst 1, 1) := by decide +kernel
theorem dX8_error_37 : decode cX8_error 37 = .ok (.iadd, 1) := by decide +kernel
theorem dX8_error_38 : decode cX8_error 38 = .ok (.aload_n 2, 1) := by decide +kernel
theorem dX8_error_39 : decode cX8_error 39 = .ok (.getfield 127, 3) := by decide +kernel
theorem dX8_error_42 : decode cX8_error 42 = .ok (.if_icmp .ge 12, 3) := by decide +kernel
theorem dX8_error_45 : decode cX8_error 45 = .ok (.aload_n 2, 1) := by decide +kernel
theorem dX8_error_46 : decode cX8_error 46 = .ok (.getfield 130, 3) := by decide +kernel
theorem dX8_error_49 : decode cX8_error 49 = .ok (.iconst 1, 1) := by decide +kernel
theorem dX8_error_50 : decode cX8_error 50 = .ok (.iadd, 1) := by decide +kernel
theorem dX8_error_51 : decode cX8_error 51 = .ok (.goto 4, 3) := by decide +kernel
theorem dX8_error_54 : decode cX8_error 54 = .ok (.iconst 0, 1) := by decide +kernel
theorem dX8_error_55 : decode cX8_error 55 = .ok (.putfield 130, 3) := by decide +kernel
theorem dX8_error_58 : decode cX8_error 58 = .ok (.aload_n 0, 1) := by decide +kernel
theorem dX8_error_59 : decode cX8_error 59 = .ok (.getfield 19, 3) := by decide +kernel
theorem dX8_error_62 : decode cX8_error 62 = .ok (.iload_n 1, 1) := by decide +kernel
theorem dX8_error_63 : decode cX8_error 63 = .ok (.aload_n 2, 1) := by decide +kernel
theorem dX8_error_64 : decode cX8_error 64 = .ok (.invokevirtual 277, 3) := by decide +kernel
theorem dX8_error_67 : decode cX8_error 67 = .ok (.istore_n 3, 1) := by decide +kernel
theorem dX8_error_68 : decode cX8_error 68 = .ok (.aload_n 0, 1) := by decide +kernel
theorem dX8_error_69 : decode cX8_error 69 = .ok (.getfield 19, 3) := by decide +kernel
theorem dX8_error_72 : decode cX8_error 72 = .ok (.iload_n 1, 1) := by decide +kernel
theorem dX8_error_73 : decode cX8_error 73 = .ok (.aload_n 0, 1) := by decide +kernel
theorem dX8_error_74 : decode cX8_error 74 = .ok (.getfield 50, 3) := by decide +kernel
theorem dX8_error_77 : decode cX8_error 77 = .ok (.invokevirtual 277, 3) := by decide +kernel
theorem dX8_error_80 : decode cX8_error 80 = .ok (.istore 4, 2) := by decide +kernel
theorem dX8_error_82 : decode cX8_error 82 = .ok (.iload_n 3, 1) := by decide +kernel
theorem dX8_error_83 : decode cX8_error 83 = .ok (.ifCond .eq 14, 3) := by decide +kernel
theorem dX8_error_86 : decode cX8_error 86 = .ok (.iload 4, 2) := by decide +kernel
theorem dX8_error_88 : decode cX8_error 88 = .ok (.ifCond .eq 7, 3) := by decide +kernel
theorem dX8_error_91 : decode cX8_error 91 = .ok (.iconst 2, 1) := by decide +kernel
theorem dX8_error_92 : decode cX8_error 92 = .ok (.goto 4, 3) := by decide +kernel
theorem dX8_error_95 : decode cX8_error 95 = .ok (.iconst 0, 1) := by decide +kernel
theorem dX8_error_96 : decode cX8_error 96 = .ok (.ireturn, 1) := by decide +kernel
theorem dX8_error_97 : decode cX8_error 97 = .ok (.iload 4, 2) := by decide +kernel
theorem dX8_error_99 : decode cX8_error 99 = .ok (.ifCond .eq 7, 3) := by decide +kernel
theorem dX8_error_102 : decode cX8_error 102 = .ok (.iconst 1, 1) := by decide +kernel
theorem dX8_error_103 : decode cX8_error 103 = .ok (.goto 4, 3) := by decide +kernel
theorem dX8_error_106 : decode cX8_error 106 = .ok (.iconst 3, 1) := by decide +kernel
theorem dX8_error_107 : decode cX8_error 107 = .ok (.ireturn, 1) := by decide +kernel
theorem dX8_wheels_0 : decode cX8_wheels 0 = .ok (.aload_n 0, 1) := by decide +kernel
theorem dX8_wheels_1 : decode cX8_wheels 1 = .ok (.iload_n 1, 1) := by decide +kernel
theorem dX8_wheels_2 : decode cX8_wheels 2 = .ok (.invokevirtual 116, 3) := by decide +kernel
theorem dX8_wheels_5 : decode cX8_wheels 5 = .ok (.ifCond .eq 12, 3) := by decide +kernel
theorem dX8_wheels_8 : decode cX8_wheels 8 = .ok (.iload_n 2, 1) := by decide +kernel
theorem dX8_wheels_9 : decode cX8_wheels 9 = .ok (.ifCond .lt 8, 3) := by decide +kernel
theorem dX8_wheels_12 : decode cX8_wheels 12 = .ok (.iload_n 2, 1) := by decide +kernel
end
section
theorem dX8_wheels_13 : decode cX8_wheels 13 = .ok (.iconst 2, 1) := by decide +kernel
theorem dX8_wheels_14 : decode cX8_wheels 14 = .ok (.if_icmp .le 5, 3) := by decide +kernel
theorem dX8_wheels_17 : decode cX8_wheels 17 = .ok (.iconst (-1), 1) := by decide +kernel
theorem dX8_wheels_18 : decode cX8_wheels 18 = .ok (.ireturn, 1) := by decide +kernel
theorem dX8_wheels_19 : decode cX8_wheels 19 = .ok (.iconst 0, 1) := by decide +kernel
theorem dX8_wheels_20 : decode cX8_wheels 20 = .ok (.istore_n 3, 1) := by decide +kernel
theorem dX8_wheels_21 : decode cX8_wheels 21 = .ok (.iconst 2, 1) := by decide +kernel
theorem dX8_wheels_22 : decode cX8_wheels 22 = .ok (.istore 4, 2) := by decide +kernel
theorem dX8_wheels_24 : decode cX8_wheels 24 = .ok (.iload 4, 2) := by decide +kernel
theorem dX8_wheels_26 : decode cX8_wheels 26 = .ok (.bipush 60, 2) := by decide +kernel
theorem dX8_wheels_28 : decode cX8_wheels 28 = .ok (.if_icmp .gt 62, 3) := by decide +kernel
theorem dX8_wheels_31 : decode cX8_wheels 31 = .ok (.aload_n 0, 1) := by decide +kernel
theorem dX8_wheels_32 : decode cX8_wheels 32 = .ok (.getfield 19, 3) := by decide +kernel
theorem dX8_wheels_35 : decode cX8_wheels 35 = .ok (.iload_n 1, 1) := by decide +kernel
theorem dX8_wheels_36 : decode cX8_wheels 36 = .ok (.iload 4, 2) := by decide +kernel
theorem dX8_wheels_38 : decode cX8_wheels 38 = .ok (.invokevirtual 280, 3) := by decide +kernel
theorem dX8_wheels_41 : decode cX8_wheels 41 = .ok (.lstore 5, 2) := by decide +kernel
theorem dX8_wheels_43 : decode cX8_wheels 43 = .ok (.lload 5, 2) := by decide +kernel
theorem dX8_wheels_45 : decode cX8_wheels 45 = .ok (.lconst 0, 1) := by decide +kernel
theorem dX8_wheels_46 : decode cX8_wheels 46 = .ok (.lcmp, 1) := by decide +kernel
theorem dX8_wheels_47 : decode cX8_wheels 47 = .ok (.ifCond .eq 11, 3) := by decide +kernel
theorem dX8_wheels_50 : decode cX8_wheels 50 = .ok (.iload_n 2, 1) := by decide +kernel
theorem dX8_wheels_51 : decode cX8_wheels 51 = .ok (.iconst 1, 1) := by decide +kernel
theorem dX8_wheels_52 : decode cX8_wheels 52 = .ok (.if_icmp .ne 6, 3) := by decide +kernel
theorem dX8_wheels_55 : decode cX8_wheels 55 = .ok (.iload 4, 2) := by decide +kernel
theorem dX8_wheels_57 : decode cX8_wheels 57 = .ok (.ireturn, 1) := by decide +kernel
theorem dX8_wheels_58 : decode cX8_wheels 58 = .ok (.lload 5, 2) := by decide +kernel
theorem dX8_wheels_60 : decode cX8_wheels 60 = .ok (.lconst 0, 1) := by decide +kernel
theorem dX8_wheels_61 : decode cX8_wheels 61 = .ok (.lcmp, 1) := by decide +kernel
theorem dX8_wheels_62 : decode cX8_wheels 62 = .ok (.ifCond .eq 14, 3) := by decide +kernel
theorem dX8_wheels_65 : decode cX8_wheels 65 = .ok (.iload_n 2, 1) := by decide +kernel
theorem dX8_wheels_66 : decode cX8_wheels 66 = .ok (.iconst 2, 1) := by decide +kernel
theorem dX8_wheels_67 : decode cX8_wheels 67 = .ok (.if_icmp .ne 9, 3) := by decide +kernel
theorem dX8_wheels_70 : decode cX8_wheels 70 = .ok (.lload 5, 2) := by decide +kernel
theorem dX8_wheels_72 : decode cX8_wheels 72 = .ok (.invokestatic 284, 3) := by decide +kernel
theorem dX8_wheels_75 : decode cX8_wheels 75 = .ok (.ireturn, 1) := by decide +kernel
theorem dX8_wheels_76 : decode cX8_wheels 76 = .ok (.iload_n 3, 1) := by decide +kernel
theorem dX8_wheels_77 : decode cX8_wheels 77 = .ok (.lload 5, 2) := by decide +kernel
theorem dX8_wheels_79 : decode cX8_wheels 79 = .ok (.invokestatic 287, 3) := by decide +kernel
theorem dX8_wheels_82 : decode cX8_wheels 82 = .ok (.iadd, 1) := by decide +kernel
theorem dX8_wheels_83 : decode cX8_wheels 83 = .ok (.istore_n 3, 1) := by decide +kernel
theorem dX8_wheels_84 : decode cX8_wheels 84 = .ok (.iinc 4 1, 3) := by decide +kernel
theorem dX8_wheels_87 : decode cX8_wheels 87 = .ok (.goto (-63), 3) := by decide +kernel
theorem dX8_wheels_90 : decode cX8_wheels 90 = .ok (.iload_n 2, 1) := by decide +kernel
theorem dX8_wheels_91 : decode cX8_wheels 91 = .ok (.ifCond .ne 7, 3) := by decide +kernel
theorem dX8_wheels_94 : decode cX8_wheels 94 = .ok (.iload_n 3, 1) := by decide +kernel
theorem dX8_wheels_95 : decode cX8_wheels 95 = .ok (.goto 5, 3) := by decide +kernel
theorem dX8_wheels_98 : decode cX8_wheels 98 = .ok (.bipush (-4), 2) := by decide +kernel
theorem dX8_wheels_100 : decode cX8_wheels 100 = .ok (.ireturn, 1) := by decide +kernel
theorem dX8_worn_0 : decode cX8_worn 0 = .ok (.aload_n 0, 1) := by decide +kernel
theorem dX8_worn_1 : decode cX8_worn 1 = .ok (.iload_n 1, 1) := by decide +kernel
theorem dX8_worn_2 : decode cX8_worn 2 = .ok (.invokevirtual 116, 3) := by decide +kernel
theorem dX8_worn_5 : decode cX8_worn 5 = .ok (.ifCond .ne 5, 3) := by decide +kernel
theorem dX8_worn_8 : decode cX8_worn 8 = .ok (.iconst (-1), 1) := by decide +kernel
theorem dX8_worn_9 : decode cX8_worn 9 = .ok (.ireturn, 1) := by decide +kernel
theorem dX8_worn_10 : decode cX8_worn 10 = .ok (.aload_n 0, 1) := by decide +kernel
theorem dX8_worn_11 : decode cX8_worn 11 = .ok (.getfield 50, 3) := by decide +kernel
theorem dX8_worn_14 : decode cX8_worn 14 = .ok (.aload_n 0, 1) := by decide +kernel
theorem dX8_worn_15 : decode cX8_worn 15 = .ok (.getfield 19, 3) := by decide +kernel
theorem dX8_worn_18 : decode cX8_worn 18 = .ok (.getfield 120, 3) := by decide +kernel
theorem dX8_worn_21 : decode cX8_worn 21 = .ok (.iload_n 1, 1) := by decide +kernel
theorem dX8_worn_22 : decode cX8_worn 22 = .ok (.aaload, 1) := by decide +kernel
theorem dX8_worn_23 : decode cX8_worn 23 = .ok (.invokevirtual 246, 3) := by decide +kernel
theorem dX8_worn_26 : decode cX8_worn 26 = .ok (.iconst 0, 1) := by decide +kernel
theorem dX8_worn_27 : decode cX8_worn 27 = .ok (.istore_n 2, 1) := by decide +kernel
theorem dX8_worn_28 : decode cX8_worn 28 = .ok (.iconst 0, 1) := by decide +kernel
theorem dX8_worn_29 : decode cX8_worn 29 = .ok (.istore_n 3, 1) := by decide +kernel
theorem dX8_worn_30 : decode cX8_worn 30 = .ok (.iload_n 3, 1) := by decide +kernel
theorem dX8_worn_31 : decode cX8_worn 31 = .ok (.iconst 3, 1) := by decide +kernel
theorem dX8_worn_32 : decode cX8_worn 32 = .ok (.if_icmp .gt 38, 3) := by decide +kernel
theorem dX8_worn_35 : decode cX8_worn 35 = .ok (.aload_n 0, 1) := by decide +kernel
theorem dX8_worn_36 : decode cX8_worn 36 = .ok (.getfield 50, 3) := by decide +kernel
theorem dX8_worn_39 : decode cX8_worn 39 = .ok (.iload_n 3, 1) := by decide +kernel
theorem dX8_worn_40 : decode cX8_worn 40 = .ok (.putfield 136, 3) := by decide +kernel
theorem dX8_worn_43 : decode cX8_worn 43 = .ok (.aload_n 0, 1) := by decide +kernel
theorem dX8_worn_44 : decode cX8_worn 44 = .ok (.getfield 19, 3) := by decide +kernel
theorem dX8_worn_47 : decode cX8_worn 47 = .ok (.iload_n 1, 1) := by decide +kernel
theorem dX8_worn_48 : decode cX8_worn 48 = .ok (.aload_n 0, 1) := by decide +kernel
theorem dX8_worn_49 : decode cX8_worn 49 = .ok (.getfield 50, 3) := by decide +kernel
theorem dX8_worn_52 : decode cX8_worn 52 = .ok (.invokevirtual 277, 3) := by decide +kernel
theorem dX8_worn_55 : decode cX8_worn 55 = .ok (.ifCond .eq 9, 3) := by decide +kernel
theorem dX8_worn_58 : decode cX8_worn 58 = .ok (.iload_n 2, 1) := by decide +kernel
theorem dX8_worn_59 : decode cX8_worn 59 = .ok (.iconst 1, 1) := by decide +kernel
theorem dX8_worn_60 : decode cX8_worn 60 = .ok (.iload_n 3, 1) := by decide +kernel
theorem dX8_worn_61 : decode cX8_worn 61 = .ok (.ishl, 1) := by decide +kernel
theorem dX8_worn_62 : decode cX8_worn 62 = .ok (.ior, 1) := by decide +kernel
theorem dX8_worn_63 : decode cX8_worn 63 = .ok (.istore_n 2, 1) := by decide +kernel
theorem dX8_worn_64 : decode cX8_worn 64 = .ok (.iinc 3 1, 3) := by decide +kernel
theorem dX8_worn_67 : decode cX8_worn 67 = .ok (.goto (-37), 3) := by decide +kernel
theorem dX8_worn_70 : decode cX8_worn 70 = .ok (.iload_n 2, 1) := by decide +kernel
theorem dX8_worn_71 : decode cX8_worn 71 = .ok (.ireturn, 1) := by decide +kernel
theorem dX8_fright_0 : decode cX8_fright 0 = .ok (.iload_n 1, 1) := by decide +kernel
theorem dX8_fright_1 : decode cX8_fright 1 = .ok (.invokestatic 232, 3) := by decide +kernel
theorem dX8_fright_4 : decode cX8_fright 4 = .ok (.ifCond .eq 18, 3) := by decide +kernel
theorem dX8_fright_7 : decode cX8_fright 7 = .ok (.lload_n 2, 1) := by decide +kernel
theorem dX8_fright_8 : decode cX8_fright 8 = .ok (.invokestatic 160, 3) := by decide +kernel
theorem dX8_fright_11 : decode cX8_fright 11 = .ok (.ifCond .eq 11, 3) := by decide +kernel
theorem dX8_fright_14 : decode cX8_fright 14 = .ok (.iload 4, 2) := by decide +kernel
theorem dX8_fright_16 : decode cX8_fright 16 = .ok (.invokestatic 226, 3) := by decide +kernel
theorem dX8_fright_19 : decode cX8_fright 19 = .ok (.ifCond .ne 5, 3) := by decide +kernel
theorem dX8_fright_22 : decode cX8_fright 22 = .ok (.iconst (-1), 1) := by decide +kernel
theorem dX8_fright_23 : decode cX8_fright 23 = .ok (.ireturn, 1) := by decide +kernel
theorem dX8_fright_24 : decode cX8_fright 24 = .ok (.aload_n 0, 1) := by decide +kernel
theorem dX8_fright_25 : decode cX8_fright 25 = .ok (.lload_n 2, 1) := by decide +kernel
theorem dX8_fright_26 : decode cX8_fright 26 = .ok (.iload 4, 2) := by decide +kernel
theorem dX8_fright_28 : decode cX8_fright 28 = .ok (.invokevirtual 292, 3) := by decide +kernel
theorem dX8_fright_31 : decode cX8_fright 31 = .ok (.aload_n 0, 1) := by decide +kernel
theorem dX8_fright_32 : decode cX8_fright 32 = .ok (.getfield 61, 3) := by decide +kernel
theorem dX8_fright_35 : decode cX8_fright 35 = .ok (.iload_n 1, 1) := by decide +kernel
theorem dX8_fright_36 : decode cX8_fright 36 = .ok (.iaload, 1) := by decide +kernel
theorem dX8_fright_37 : decode cX8_fright 37 = .ok (.ireturn, 1) := by decide +kernel
theorem dX8_stand_0 : decode cX8_stand 0 = .ok (.lload_n 1, 1) := by decide +kernel
theorem dX8_stand_1 : decode cX8_stand 1 = .ok (.invokestatic 160, 3) := by decide +kernel
theorem dX8_stand_4 : decode cX8_stand 4 = .ok (.ifCond .eq 10, 3) := by decide +kernel
theorem dX8_stand_7 : decode cX8_stand 7 = .ok (.iload_n 3, 1) := by decide +kernel
theorem dX8_stand_8 : decode cX8_stand 8 = .ok (.invokestatic 226, 3) := by decide +kernel
theorem dX8_stand_11 : decode cX8_stand 11 = .ok (.ifCond .ne 5, 3) := by decide +kernel
theorem dX8_stand_14 : decode cX8_stand 14 = .ok (.iconst (-1), 1) := by decide +kernel
theorem dX8_stand_15 : decode cX8_stand 15 = .ok (.ireturn, 1) := by decide +kernel
theorem dX8_stand_16 : decode cX8_stand 16 = .ok (.aload_n 0, 1) := by decide +kernel
theorem dX8_stand_17 : decode cX8_stand 17 = .ok (.lload_n 1, 1) := by decide +kernel
theorem dX8_stand_18 : decode cX8_stand 18 = .ok (.iload_n 3, 1) := by decide +kernel
theorem dX8_stand_19 : decode cX8_stand 19 = .ok (.invokevirtual 292, 3) := by decide +kernel
theorem dX8_stand_22 : decode cX8_stand 22 = .ok (.iconst 0, 1) := by decide +kernel
theorem dX8_stand_23 : decode cX8_stand 23 = .ok (.istore 4, 2) := by decide +kernel
theorem dX8_stand_25 : decode cX8_stand 25 = .ok (.iconst 1, 1) := by decide +kernel
theorem dX8_stand_26 : decode cX8_stand 26 = .ok (.istore 5, 2) := by decide +kernel
theorem dX8_stand_28 : decode cX8_stand 28 = .ok (.iload 5, 2) := by decide +kernel
theorem dX8_stand_30 : decode cX8_stand 30 = .ok (.aload_n 0, 1) := by decide +kernel
theorem dX8_stand_31 : decode cX8_stand 31 = .ok (.getfield 61, 3) := by decide +kernel
theorem dX8_stand_34 : decode cX8_stand 34 = .ok (.arraylength, 1) := by decide +kernel
theorem dX8_stand_35 : decode cX8_stand 35 = .ok (.if_icmp .ge 30, 3) := by decide +kernel
theorem dX8_stand_38 : decode cX8_stand 38 = .ok (.aload_n 0, 1) := by decide +kernel
theorem dX8_stand_39 : decode cX8_stand 39 = .ok (.getfield 61, 3) := by decide +kernel
theorem dX8_stand_42 : decode cX8_stand 42 = .ok (.iload 5, 2) := by decide +kernel
theorem dX8_stand_44 : decode cX8_stand 44 = .ok (.iaload, 1) := by decide +kernel
theorem dX8_stand_45 : decode cX8_stand 45 = .ok (.aload_n 0, 1) := by decide +kernel
theorem dX8_stand_46 : decode cX8_stand 46 = .ok (.getfield 61, 3) := by decide +kernel
theorem dX8_stand_49 : decode cX8_stand 49 = .ok (.iload 4, 2) := by decide +kernel
theorem dX8_stand_51 : decode cX8_stand 51 = .ok (.iaload, 1) := by decide +kernel
theorem dX8_stand_52 : decode cX8_stand 52 = .ok (.if_icmp .ge 7, 3) := by decide +kernel
theorem dX8_stand_55 : decode cX8_stand 55 = .ok (.iload 5, 2) := by decide +kernel
theorem dX8_stand_57 : decode cX8_stand 57 = .ok (.istore 4, 2) := by decide +kernel
theorem dX8_stand_59 : decode cX8_stand 59 = .ok (.iinc 5 1, 3) := by decide +kernel
theorem dX8_stand_62 : decode cX8_stand 62 = .ok (.goto (-34), 3) := by decide +kernel
theorem dX8_stand_65 : decode cX8_stand 65 = .ok (.iload 4, 2) := by decide +kernel
theorem dX8_stand_67 : decode cX8_stand 67 = .ok (.ireturn, 1) := by decide +kernel
theorem dX8_keep_0 : decode cX8_keep 0 = .ok (.iload_n 1, 1) := by decide +kernel
theorem dX8_keep_1 : decode cX8_keep 1 = .ok (.invokestatic 296, 3) := by decide +kernel
theorem dX8_keep_4 : decode cX8_keep 4 = .ok (.ifCond .ne 5, 3) := by decide +kernel
theorem dX8_keep_7 : decode cX8_keep 7 = .ok (.iconst (-1), 1) := by decide +kernel
theorem dX8_keep_8 : decode cX8_keep 8 = .ok (.ireturn, 1) := by decide +kernel
theorem dX8_keep_9 : decode cX8_keep 9 = .ok (.aload_n 0, 1) := by decide +kernel
theorem dX8_keep_10 : decode cX8_keep 10 = .ok (.getfield 30, 3) := by decide +kernel
theorem dX8_keep_13 : decode cX8_keep 13 = .ok (.iload_n 1, 1) := by decide +kernel
theorem dX8_keep_14 : decode cX8_keep 14 = .ok (.baload, 1) := by decide +kernel
theorem dX8_keep_15 : decode cX8_keep 15 = .ok (.ifCond .eq 7, 3) := by decide +kernel
theorem dX8_keep_18 : decode cX8_keep 18 = .ok (.iconst 1, 1) := by decide +kernel
theorem dX8_keep_19 : decode cX8_keep 19 = .ok (.goto 4, 3) := by decide +kernel
theorem dX8_keep_22 : decode cX8_keep 22 = .ok (.iconst 0, 1) := by decide +kernel
theorem dX8_keep_23 : decode cX8_keep 23 = .ok (.istore_n 2, 1) := by decide +kernel
theorem dX8_keep_24 : decode cX8_keep 24 = .ok (.aload_n 0, 1) := by decide +kernel
theorem dX8_keep_25 : decode cX8_keep 25 = .ok (.getfield 26, 3) := by decide +kernel
theorem dX8_keep_28 : decode cX8_keep 28 = .ok (.iload_n 1, 1) := by decide +kernel
theorem dX8_keep_29 : decode cX8_keep 29 = .ok (.aaload, 1) := by decide +kernel
theorem dX8_keep_30 : decode cX8_keep 30 = .ok (.aload_n 0, 1) := by decide +kernel
theorem dX8_keep_31 : decode cX8_keep 31 = .ok (.getfield 19, 3) := by decide +kernel
theorem dX8_keep_34 : decode cX8_keep 34 = .ok (.invokevirtual 94, 3) := by decide +kernel
theorem dX8_keep_37 : decode cX8_keep 37 = .ok (.aload_n 0, 1) := by decide +kernel
theorem dX8_keep_38 : decode cX8_keep 38 = .ok (.getfield 30, 3) := by decide +kernel
theorem dX8_keep_41 : decode cX8_keep 41 = .ok (.iload_n 1, 1) := by decide +kernel
theorem dX8_keep_42 : decode cX8_keep 42 = .ok (.iconst 1, 1) := by decide +kernel
theorem dX8_keep_43 : decode cX8_keep 43 = .ok (.bastore, 1) := by decide +kernel
theorem dX8_keep_44 : decode cX8_keep 44 = .ok (.iload_n 2, 1) := by decide +kernel
theorem dX8_keep_45 : decode cX8_keep 45 = .ok (.ireturn, 1) := by decide +kernel
theorem dX8_back_0 : decode cX8_back 0 = .ok (.iload_n 1, 1) := by decide +kernel
theorem dX8_back_1 : decode cX8_back 1 = .ok (.invokestatic 296, 3) := by decide +kernel
theorem dX8_back_4 : decode cX8_back 4 = .ok (.ifCond .ne 5, 3) := by decide +kernel
theorem dX8_back_7 : decode cX8_back 7 = .ok (.iconst (-1), 1) := by decide +kernel
theorem dX8_back_8 : decode cX8_back 8 = .ok (.ireturn, 1) := by decide +kernel
theorem dX8_back_9 : decode cX8_back 9 = .ok (.aload_n 0, 1) := by decide +kernel
theorem dX8_back_10 : decode cX8_back 10 = .ok (.getfield 30, 3) := by decide +kernel
theorem dX8_back_13 : decode cX8_back 13 = .ok (.iload_n 1, 1) := by decide +kernel
theorem dX8_back_14 : decode cX8_back 14 = .ok (.baload, 1) := by decide +kernel
theorem dX8_back_15 : decode cX8_back 15 = .ok (.ifCond .ne 6, 3) := by decide +kernel
theorem dX8_back_18 : decode cX8_back 18 = .ok (.bipush (-2), 2) := by decide +kernel
theorem dX8_back_20 : decode cX8_back 20 = .ok (.ireturn, 1) := by decide +kernel
theorem dX8_back_21 : decode cX8_back 21 = .ok (.aload_n 0, 1) := by decide +kernel
theorem dX8_back_22 : decode cX8_back 22 = .ok (.getfield 19, 3) := by decide +kernel
theorem dX8_back_25 : decode cX8_back 25 = .ok (.aload_n 0, 1) := by decide +kernel
theorem dX8_back_26 : decode cX8_back 26 = .ok (.getfield 26, 3) := by decide +kernel
theorem dX8_back_29 : decode cX8_back 29 = .ok (.iload_n 1, 1) := by decide +kernel
theorem dX8_back_30 : decode cX8_back 30 = .ok (.aaload, 1) := by decide +kernel
theorem dX8_back_31 : decode cX8_back 31 = .ok (.invokevirtual 94, 3) := by decide +kernel
theorem dX8_back_34 : decode cX8_back 34 = .ok (.aload_n 0, 1) := by decide +kernel
theorem dX8_back_35 : decode cX8_back 35 = .ok (.getfield 19, 3) := by decide +kernel
theorem dX8_back_38 : decode cX8_back 38 = .ok (.getfield 98, 3) := by decide +kernel
theorem dX8_back_41 : decode cX8_back 41 = .ok (.ireturn, 1) := by decide +kernel
theorem dX8_sheet_0 : decode cX8_sheet 0 = .ok (.iload_n 1, 1) := by decide +kernel
theorem dX8_sheet_1 : decode cX8_sheet 1 = .ok (.invokestatic 299, 3) := by decide +kernel
theorem dX8_sheet_4 : decode cX8_sheet 4 = .ok (.ifCond .eq 16, 3) := by decide +kernel
theorem dX8_sheet_7 : decode cX8_sheet 7 = .ok (.iload_n 2, 1) := by decide +kernel
theorem dX8_sheet_8 : decode cX8_sheet 8 = .ok (.invokestatic 302, 3) := by decide +kernel
theorem dX8_sheet_11 : decode cX8_sheet 11 = .ok (.ifCond .eq 9, 3) := by decide +kernel
theorem dX8_sheet_14 : decode cX8_sheet 14 = .ok (.iload_n 3, 1) := by decide +kernel
theorem dX8_sheet_15 : decode cX8_sheet 15 = .ok (.bipush 40, 2) := by decide +kernel
theorem dX8_sheet_17 : decode cX8_sheet 17 = .ok (.if_icmp .le 5, 3) := by decide +kernel
theorem dX8_sheet_20 : decode cX8_sheet 20 = .ok (.iconst (-1), 1) := by decide +kernel
theorem dX8_sheet_21 : decode cX8_sheet 21 = .ok (.ireturn, 1) := by decide +kernel
theorem dX8_sheet_22 : decode cX8_sheet 22 = .ok (.iload_n 3, 1) := by decide +kernel
theorem dX8_sheet_23 : decode cX8_sheet 23 = .ok (.ifCond .ge 6, 3) := by decide +kernel
theorem dX8_sheet_26 : decode cX8_sheet 26 = .ok (.bipush (-14), 2) := by decide +kernel
theorem dX8_sheet_28 : decode cX8_sheet 28 = .ok (.ireturn, 1) := by decide +kernel
theorem dX8_sheet_29 : decode cX8_sheet 29 = .ok (.aload_n 0, 1) := by decide +kernel
theorem dX8_sheet_30 : decode cX8_sheet 30 = .ok (.getfield 36, 3) := by decide +kernel
theorem dX8_sheet_33 : decode cX8_sheet 33 = .ok (.iload_n 1, 1) := by decide +kernel
theorem dX8_sheet_34 : decode cX8_sheet 34 = .ok (.aaload, 1) := by decide +kernel
theorem dX8_sheet_35 : decode cX8_sheet 35 = .ok (.iload_n 2, 1) := by decide +kernel
theorem dX8_sheet_36 : decode cX8_sheet 36 = .ok (.iload_n 3, 1) := by decide +kernel
theorem dX8_sheet_37 : decode cX8_sheet 37 = .ok (.invokevirtual 305, 3) := by decide +kernel
theorem dX8_sheet_40 : decode cX8_sheet 40 = .ok (.iconst 1, 1) := by decide +kernel
theorem dX8_sheet_41 : decode cX8_sheet 41 = .ok (.ireturn, 1) := by decide +kernel
theorem dX8_lay_0 : decode cX8_lay 0 = .ok (.iload_n 1, 1) := by decide +kernel
theorem dX8_lay_1 : decode cX8_lay 1 = .ok (.invokestatic 299, 3) := by decide +kernel
theorem dX8_lay_4 : decode cX8_lay 4 = .ok (.ifCond .ne 5, 3) := by decide +kernel
theorem dX8_lay_7 : decode cX8_lay 7 = .ok (.iconst (-1), 1) := by decide +kernel
theorem dX8_lay_8 : decode cX8_lay 8 = .ok (.ireturn, 1) := by decide +kernel
theorem dX8_lay_9 : decode cX8_lay 9 = .ok (.aload_n 0, 1) := by decide +kernel
theorem dX8_lay_10 : decode cX8_lay 10 = .ok (.getfield 36, 3) := by decide +kernel
theorem dX8_lay_13 : decode cX8_lay 13 = .ok (.iload_n 1, 1) := by decide +kernel
theorem dX8_lay_14 : decode cX8_lay 14 = .ok (.aaload, 1) := by decide +kernel
theorem dX8_lay_15 : decode cX8_lay 15 = .ok (.astore 4, 2) := by decide +kernel
theorem dX8_lay_17 : decode cX8_lay 17 = .ok (.aload 4, 2) := by decide +kernel
theorem dX8_lay_19 : decode cX8_lay 19 = .ok (.aload 4, 2) := by decide +kernel
theorem dX8_lay_21 : decode cX8_lay 21 = .ok (.getfield 309, 3) := by decide +kernel
theorem dX8_lay_24 : decode cX8_lay 24 = .ok (.iload_n 2, 1) := by decide +kernel
theorem dX8_lay_25 : decode cX8_lay 25 = .ok (.i2l, 1) := by decide +kernel
theorem dX8_lay_26 : decode cX8_lay 26 = .ok (.iconst 1, 1) := by decide +kernel
theorem dX8_lay_27 : decode cX8_lay 27 = .ok (.invokevirtual 312, 3) := by decide +kernel
theorem dX8_lay_30 : decode cX8_lay 30 = .ok (.istore 5, 2) := by decide +kernel
theorem dX8_lay_32 : decode cX8_lay 32 = .ok (.iload 5, 2) := by decide +kernel
theorem dX8_lay_34 : decode cX8_lay 34 = .ok (.ifCond .eq 9, 3) := by decide +kernel
theorem dX8_lay_37 : decode cX8_lay 37 = .ok (.bipush (-10), 2) := by decide +kernel
theorem dX8_lay_39 : decode cX8_lay 39 = .ok (.iload 5, 2) := by decide +kernel
theorem dX8_lay_41 : decode cX8_lay 41 = .ok (.isub, 1) := by decide +kernel
theorem dX8_lay_42 : decode cX8_lay 42 = .ok (.ireturn, 1) := by decide +kernel
theorem dX8_lay_43 : decode cX8_lay 43 = .ok (.aload 4, 2) := by decide +kernel
theorem dX8_lay_45 : decode cX8_lay 45 = .ok (.iload_n 2, 1) := by decide +kernel
theorem dX8_lay_46 : decode cX8_lay 46 = .ok (.iload_n 3, 1) := by decide +kernel
theorem dX8_lay_47 : decode cX8_lay 47 = .ok (.invokevirtual 316, 3) := by decide +kernel
theorem dX8_lay_50 : decode cX8_lay 50 = .ok (.iconst 1, 1) := by decide +kernel
theorem dX8_lay_51 : decode cX8_lay 51 = .ok (.ireturn, 1) := by decide +kernel
theorem dX8_read_0 : decode cX8_read 0 = .ok (.iload_n 1, 1) := by decide +kernel
theorem dX8_read_1 : decode cX8_read 1 = .ok (.invokestatic 299, 3) := by decide +kernel
theorem dX8_read_4 : decode cX8_read 4 = .ok (.ifCond .eq 22, 3) := by decide +kernel
theorem dX8_read_7 : decode cX8_read 7 = .ok (.iload_n 2, 1) := by decide +kernel
theorem dX8_read_8 : decode cX8_read 8 = .ok (.invokestatic 302, 3) := by decide +kernel
theorem dX8_read_11 : decode cX8_read 11 = .ok (.ifCond .eq 15, 3) := by decide +kernel
theorem dX8_read_14 : decode cX8_read 14 = .ok (.iload 4, 2) := by decide +kernel
theorem dX8_read_16 : decode cX8_read 16 = .ok (.ifCond .lt 10, 3) := by decide +kernel
theorem dX8_read_19 : decode cX8_read 19 = .ok (.iload 4, 2) := by decide +kernel
theorem dX8_read_21 : decode cX8_read 21 = .ok (.bipush 12, 2) := by decide +kernel
theorem dX8_read_23 : decode cX8_read 23 = .ok (.if_icmp .le 5, 3) := by decide +kernel
theorem dX8_read_26 : decode cX8_read 26 = .ok (.iconst (-1), 1) := by decide +kernel
theorem dX8_read_27 : decode cX8_read 27 = .ok (.ireturn, 1) := by decide +kernel
theorem dX8_read_28 : decode cX8_read 28 = .ok (.aload_n 0, 1) := by decide +kernel
theorem dX8_read_29 : decode cX8_read 29 = .ok (.getfield 36, 3) := by decide +kernel
theorem dX8_read_32 : decode cX8_read 32 = .ok (.iload_n 1, 1) := by decide +kernel
theorem dX8_read_33 : decode cX8_read 33 = .ok (.aaload, 1) := by decide +kernel
theorem dX8_read_34 : decode cX8_read 34 = .ok (.astore 5, 2) := by decide +kernel
theorem dX8_read_36 : decode cX8_read 36 = .ok (.aload_n 0, 1) := by decide +kernel
theorem dX8_read_37 : decode cX8_read 37 = .ok (.getfield 19, 3) := by decide +kernel
theorem dX8_read_40 : decode cX8_read 40 = .ok (.getfield 274, 3) := by decide +kernel
theorem dX8_read_43 : decode cX8_read 43 = .ok (.istore 6, 2) := by decide +kernel
theorem dX8_read_45 : decode cX8_read 45 = .ok (.iconst 0, 1) := by decide +kernel
theorem dX8_read_46 : decode cX8_read 46 = .ok (.istore 7, 2) := by decide +kernel
theorem dX8_read_48 : decode cX8_read 48 = .ok (.iload 7, 2) := by decide +kernel
theorem dX8_read_50 : decode cX8_read 50 = .ok (.iload 4, 2) := by decide +kernel
theorem dX8_read_52 : decode cX8_read 52 = .ok (.if_icmp .ge 73, 3) := by decide +kernel
theorem dX8_read_55 : decode cX8_read 55 = .ok (.iload_n 3, 1) := by decide +kernel
theorem dX8_read_56 : decode cX8_read 56 = .ok (.i2l, 1) := by decide +kernel
theorem dX8_read_57 : decode cX8_read 57 = .ok (.ldc2_w 319, 3) := by decide +kernel
theorem dX8_read_60 : decode cX8_read 60 = .ok (.iload 7, 2) := by decide +kernel
theorem dX8_read_62 : decode cX8_read 62 = .ok (.i2l, 1) := by decide +kernel
theorem dX8_read_63 : decode cX8_read 63 = .ok (.lmul, 1) := by decide +kernel
theorem dX8_read_64 : decode cX8_read 64 = .ok (.ladd, 1) := by decide +kernel
theorem dX8_read_65 : decode cX8_read 65 = .ok (.lstore 8, 2) := by decide +kernel
theorem dX8_read_67 : decode cX8_read 67 = .ok (.aload 5, 2) := by decide +kernel
theorem dX8_read_69 : decode cX8_read 69 = .ok (.iload_n 2, 1) := by decide +kernel
theorem dX8_read_70 : decode cX8_read 70 = .ok (.lload 8, 2) := by decide +kernel
theorem dX8_read_72 : decode cX8_read 72 = .ok (.iconst 3, 1) := by decide +kernel
theorem dX8_read_73 : decode cX8_read 73 = .ok (.invokevirtual 312, 3) := by decide +kernel
theorem dX8_read_76 : decode cX8_read 76 = .ok (.istore 10, 2) := by decide +kernel
theorem dX8_read_78 : decode cX8_read 78 = .ok (.iload 10, 2) := by decide +kernel
theorem dX8_read_80 : decode cX8_read 80 = .ok (.ifCond .eq 12, 3) := by decide +kernel
theorem dX8_read_83 : decode cX8_read 83 = .ok (.aload_n 0, 1) := by decide +kernel
theorem dX8_read_84 : decode cX8_read 84 = .ok (.iload 10, 2) := by decide +kernel
theorem dX8_read_86 : decode cX8_read 86 = .ok (.putfield 68, 3) := by decide +kernel
theorem dX8_read_89 : decode cX8_read 89 = .ok (.iload 7, 2) := by decide +kernel
theorem dX8_read_91 : decode cX8_read 91 = .ok (.ireturn, 1) := by decide +kernel
theorem dX8_read_92 : decode cX8_read 92 = .ok (.aload_n 0, 1) := by decide +kernel
theorem dX8_read_93 : decode cX8_read 93 = .ok (.aload 5, 2) := by decide +kernel
theorem dX8_read_95 : decode cX8_read 95 = .ok (.lload 8, 2) := by decide +kernel
theorem dX8_read_97 : decode cX8_read 97 = .ok (.l2i, 1) := by decide +kernel
theorem dX8_read_98 : decode cX8_read 98 = .ok (.invokevirtual 321, 3) := by decide +kernel
theorem dX8_read_101 : decode cX8_read 101 = .ok (.ifCond .ne 18, 3) := by decide +kernel
theorem dX8_read_104 : decode cX8_read 104 = .ok (.aload_n 0, 1) := by decide +kernel
theorem dX8_read_105 : decode cX8_read 105 = .ok (.getfield 19, 3) := by decide +kernel
theorem dX8_read_108 : decode cX8_read 108 = .ok (.iload 6, 2) := by decide +kernel
theorem dX8_read_110 : decode cX8_read 110 = .ok (.putfield 274, 3) := by decide +kernel
theorem dX8_read_113 : decode cX8_read 113 = .ok (.bipush (-20), 2) := by decide +kernel
theorem dX8_read_115 : decode cX8_read 115 = .ok (.iload 7, 2) := by decide +kernel
theorem dX8_read_117 : decode cX8_read 117 = .ok (.isub, 1) := by decide +kernel
theorem dX8_read_118 : decode cX8_read 118 = .ok (.ireturn, 1) := by decide +kernel
theorem dX8_read_119 : decode cX8_read 119 = .ok (.iinc 7 1, 3) := by decide +kernel
theorem dX8_read_122 : decode cX8_read 122 = .ok (.goto (-74), 3) := by decide +kernel
theorem dX8_read_125 : decode cX8_read 125 = .ok (.aload_n 0, 1) := by decide +kernel
theorem dX8_read_126 : decode cX8_read 126 = .ok (.iconst 0, 1) := by decide +kernel
theorem dX8_read_127 : decode cX8_read 127 = .ok (.putfield 68, 3) := by decide +kernel
theorem dX8_read_130 : decode cX8_read 130 = .ok (.iload 4, 2) := by decide +kernel
theorem dX8_read_132 : decode cX8_read 132 = .ok (.ireturn, 1) := by decide +kernel
theorem dX8_torn_0 : decode cX8_torn 0 = .ok (.aload_n 0, 1) := by decide +kernel
theorem dX8_torn_1 : decode cX8_torn 1 = .ok (.getfield 68, 3) := by decide +kernel
theorem dX8_torn_4 : decode cX8_torn 4 = .ok (.ireturn, 1) := by decide +kernel
theorem dX8_count_0 : decode cX8_count 0 = .ok (.iload_n 1, 1) := by decide +kernel
theorem dX8_count_1 : decode cX8_count 1 = .ok (.tableswitch 116 0 4 #[35, 43, 51, 81, 89], 35) := by decide +kernel
theorem dX8_count_36 : decode cX8_count 36 = .ok (.aload_n 0, 1) := by decide +kernel
theorem dX8_count_37 : decode cX8_count 37 = .ok (.getfield 19, 3) := by decide +kernel
theorem dX8_count_40 : decode cX8_count 40 = .ok (.invokevirtual 256, 3) := by decide +kernel
theorem dX8_count_43 : decode cX8_count 43 = .ok (.ireturn, 1) := by decide +kernel
theorem dX8_count_44 : decode cX8_count 44 = .ok (.aload_n 0, 1) := by decide +kernel
theorem dX8_count_45 : decode cX8_count 45 = .ok (.getfield 19, 3) := by decide +kernel
theorem dX8_count_48 : decode cX8_count 48 = .ok (.getfield 274, 3) := by decide +kernel
theorem dX8_count_51 : decode cX8_count 51 = .ok (.ireturn, 1) := by decide +kernel
theorem dX8_count_52 : decode cX8_count 52 = .ok (.aload_n 0, 1) := by decide +kernel
theorem dX8_count_53 : decode cX8_count 53 = .ok (.getfield 30, 3) := by decide +kernel
theorem dX8_count_56 : decode cX8_count 56 = .ok (.iconst 0, 1) := by decide +kernel
theorem dX8_count_57 : decode cX8_count 57 = .ok (.baload, 1) := by decide +kernel
theorem dX8_count_58 : decode cX8_count 58 = .ok (.ifCond .eq 7, 3) := by decide +kernel
theorem dX8_count_61 : decode cX8_count 61 = .ok (.iconst 1, 1) := by decide +kernel
theorem dX8_count_62 : decode cX8_count 62 = .ok (.goto 4, 3) := by decide +kernel
theorem dX8_count_65 : decode cX8_count 65 = .ok (.iconst 0, 1) := by decide +kernel
theorem dX8_count_66 : decode cX8_count 66 = .ok (.aload_n 0, 1) := by decide +kernel
theorem dX8_count_67 : decode cX8_count 67 = .ok (.getfield 30, 3) := by decide +kernel
theorem dX8_count_70 : decode cX8_count 70 = .ok (.iconst 1, 1) := by decide +kernel
theorem dX8_count_71 : decode cX8_count 71 = .ok (.baload, 1) := by decide +kernel
theorem dX8_count_72 : decode cX8_count 72 = .ok (.ifCond .eq 7, 3) := by decide +kernel
theorem dX8_count_75 : decode cX8_count 75 = .ok (.iconst 1, 1) := by decide +kernel
theorem dX8_count_76 : decode cX8_count 76 = .ok (.goto 4, 3) := by decide +kernel
theorem dX8_count_79 : decode cX8_count 79 = .ok (.iconst 0, 1) := by decide +kernel
theorem dX8_count_80 : decode cX8_count 80 = .ok (.iadd, 1) := by decide +kernel
theorem dX8_count_81 : decode cX8_count 81 = .ok (.ireturn, 1) := by decide +kernel
theorem dX8_count_82 : decode cX8_count 82 = .ok (.aload_n 0, 1) := by decide +kernel
theorem dX8_count_83 : decode cX8_count 83 = .ok (.getfield 12, 3) := by decide +kernel
theorem dX8_count_86 : decode cX8_count 86 = .ok (.getfield 76, 3) := by decide +kernel
theorem dX8_count_89 : decode cX8_count 89 = .ok (.ireturn, 1) := by decide +kernel
theorem dX8_count_90 : decode cX8_count 90 = .ok (.aload_n 0, 1) := by decide +kernel
theorem dX8_count_91 : decode cX8_count 91 = .ok (.getfield 36, 3) := by decide +kernel
theorem dX8_count_94 : decode cX8_count 94 = .ok (.iconst 0, 1) := by decide +kernel
theorem dX8_count_95 : decode cX8_count 95 = .ok (.aaload, 1) := by decide +kernel
theorem dX8_count_96 : decode cX8_count 96 = .ok (.getfield 325, 3) := by decide +kernel
theorem dX8_count_99 : decode cX8_count 99 = .ok (.ifCond .ge 8, 3) := by decide +kernel
theorem dX8_count_102 : decode cX8_count 102 = .ok (.bipush (-4), 2) := by decide +kernel
theorem dX8_count_104 : decode cX8_count 104 = .ok (.goto 12, 3) := by decide +kernel
theorem dX8_count_107 : decode cX8_count 107 = .ok (.aload_n 0, 1) := by decide +kernel
theorem dX8_count_108 : decode cX8_count 108 = .ok (.getfield 36, 3) := by decide +kernel
theorem dX8_count_111 : decode cX8_count 111 = .ok (.iconst 0, 1) := by decide +kernel
theorem dX8_count_112 : decode cX8_count 112 = .ok (.aaload, 1) := by decide +kernel
theorem dX8_count_113 : decode cX8_count 113 = .ok (.getfield 325, 3) := by decide +kernel
theorem dX8_count_116 : decode cX8_count 116 = .ok (.ireturn, 1) := by decide +kernel
theorem dX8_count_117 : decode cX8_count 117 = .ok (.iconst (-1), 1) := by decide +kernel
theorem dX8_count_118 : decode cX8_count 118 = .ok (.ireturn, 1) := by decide +kernel
theorem dX8_isFigure_0 : decode cX8_isFigure 0 = .ok (.iload_n 1, 1) := by decide +kernel
theorem dX8_isFigure_1 : decode cX8_isFigure 1 = .ok (.ifCond .lt 18, 3) := by decide +kernel
theorem dX8_isFigure_4 : decode cX8_isFigure 4 = .ok (.iload_n 1, 1) := by decide +kernel
theorem dX8_isFigure_5 : decode cX8_isFigure 5 = .ok (.aload_n 0, 1) := by decide +kernel
theorem dX8_isFigure_6 : decode cX8_isFigure 6 = .ok (.getfield 19, 3) := by decide +kernel
theorem dX8_isFigure_9 : decode cX8_isFigure 9 = .ok (.getfield 98, 3) := by decide +kernel
theorem dX8_isFigure_12 : decode cX8_isFigure 12 = .ok (.if_icmp .ge 7, 3) := by decide +kernel
theorem dX8_isFigure_15 : decode cX8_isFigure 15 = .ok (.iconst 1, 1) := by decide +kernel
theorem dX8_isFigure_16 : decode cX8_isFigure 16 = .ok (.goto 4, 3) := by decide +kernel
theorem dX8_isFigure_19 : decode cX8_isFigure 19 = .ok (.iconst 0, 1) := by decide +kernel
theorem dX8_isFigure_20 : decode cX8_isFigure 20 = .ok (.ireturn, 1) := by decide +kernel
theorem dX8_isPair_0 : decode cX8_isPair 0 = .ok (.aload_n 0, 1) := by decide +kernel
theorem dX8_isPair_1 : decode cX8_isPair 1 = .ok (.iload_n 1, 1) := by decide +kernel
theorem dX8_isPair_2 : decode cX8_isPair 2 = .ok (.invokevirtual 116, 3) := by decide +kernel
theorem dX8_isPair_5 : decode cX8_isPair 5 = .ok (.ifCond .eq 20, 3) := by decide +kernel
theorem dX8_isPair_8 : decode cX8_isPair 8 = .ok (.aload_n 0, 1) := by decide +kernel
theorem dX8_isPair_9 : decode cX8_isPair 9 = .ok (.iload_n 2, 1) := by decide +kernel
theorem dX8_isPair_10 : decode cX8_isPair 10 = .ok (.invokevirtual 116, 3) := by decide +kernel
theorem dX8_isPair_13 : decode cX8_isPair 13 = .ok (.ifCond .eq 12, 3) := by decide +kernel
theorem dX8_isPair_16 : decode cX8_isPair 16 = .ok (.iload_n 1, 1) := by decide +kernel
theorem dX8_isPair_17 : decode cX8_isPair 17 = .ok (.iload_n 2, 1) := by decide +kernel
theorem dX8_isPair_18 : decode cX8_isPair 18 = .ok (.if_icmp .eq 7, 3) := by decide +kernel
theorem dX8_isPair_21 : decode cX8_isPair 21 = .ok (.iconst 1, 1) := by decide +kernel
theorem dX8_isPair_22 : decode cX8_isPair 22 = .ok (.goto 4, 3) := by decide +kernel
theorem dX8_isPair_25 : decode cX8_isPair 25 = .ok (.iconst 0, 1) := by decide +kernel
theorem dX8_isPair_26 : decode cX8_isPair 26 = .ok (.ireturn, 1) := by decide +kernel
theorem dX8_isSome_0 : decode cX8_isSome 0 = .ok (.iload_n 1, 1) := by decide +kernel
theorem dX8_isSome_1 : decode cX8_isSome 1 = .ok (.ifCond .le 20, 3) := by decide +kernel
theorem dX8_isSome_4 : decode cX8_isSome 4 = .ok (.iload_n 1, 1) := by decide +kernel
theorem dX8_isSome_5 : decode cX8_isSome 5 = .ok (.iconst 1, 1) := by decide +kernel
theorem dX8_isSome_6 : decode cX8_isSome 6 = .ok (.aload_n 0, 1) := by decide +kernel
theorem dX8_isSome_7 : decode cX8_isSome 7 = .ok (.getfield 19, 3) := by decide +kernel
theorem dX8_isSome_10 : decode cX8_isSome 10 = .ok (.getfield 98, 3) := by decide +kernel
theorem dX8_isSome_13 : decode cX8_isSome 13 = .ok (.ishl, 1) := by decide +kernel
theorem dX8_isSome_14 : decode cX8_isSome 14 = .ok (.if_icmp .ge 7, 3) := by decide +kernel
theorem dX8_isSome_17 : decode cX8_isSome 17 = .ok (.iconst 1, 1) := by decide +kernel
theorem dX8_isSome_18 : decode cX8_isSome 18 = .ok (.goto 4, 3) := by decide +kernel
theorem dX8_isSome_21 : decode cX8_isSome 21 = .ok (.iconst 0, 1) := by decide +kernel
theorem dX8_isSome_22 : decode cX8_isSome 22 = .ok (.ireturn, 1) := by decide +kernel
theorem dX8_isDay_0 : decode cX8_isDay 0 = .ok (.lload_n 0, 1) := by decide +kernel
theorem dX8_isDay_1 : decode cX8_isDay 1 = .ok (.lconst 0, 1) := by decide +kernel
theorem dX8_isDay_2 : decode cX8_isDay 2 = .ok (.lcmp, 1) := by decide +kernel
theorem dX8_isDay_3 : decode cX8_isDay 3 = .ok (.ifCond .lt 15, 3) := by decide +kernel
theorem dX8_isDay_6 : decode cX8_isDay 6 = .ok (.lload_n 0, 1) := by decide +kernel
theorem dX8_isDay_7 : decode cX8_isDay 7 = .ok (.ldc2_w 328, 3) := by decide +kernel
theorem dX8_isDay_10 : decode cX8_isDay 10 = .ok (.lcmp, 1) := by decide +kernel
theorem dX8_isDay_11 : decode cX8_isDay 11 = .ok (.ifCond .gt 7, 3) := by decide +kernel
theorem dX8_isDay_14 : decode cX8_isDay 14 = .ok (.iconst 1, 1) := by decide +kernel
theorem dX8_isDay_15 : decode cX8_isDay 15 = .ok (.goto 4, 3) := by decide +kernel
theorem dX8_isDay_18 : decode cX8_isDay 18 = .ok (.iconst 0, 1) := by decide +kernel
theorem dX8_isDay_19 : decode cX8_isDay 19 = .ok (.ireturn, 1) := by decide +kernel
theorem dX8_isSpan_0 : decode cX8_isSpan 0 = .ok (.lload_n 0, 1) := by decide +kernel
theorem dX8_isSpan_1 : decode cX8_isSpan 1 = .ok (.invokestatic 160, 3) := by decide +kernel
theorem dX8_isSpan_4 : decode cX8_isSpan 4 = .ok (.ifCond .eq 20, 3) := by decide +kernel
theorem dX8_isSpan_7 : decode cX8_isSpan 7 = .ok (.lload_n 2, 1) := by decide +kernel
theorem dX8_isSpan_8 : decode cX8_isSpan 8 = .ok (.invokestatic 160, 3) := by decide +kernel
theorem dX8_isSpan_11 : decode cX8_isSpan 11 = .ok (.ifCond .eq 13, 3) := by decide +kernel
theorem dX8_isSpan_14 : decode cX8_isSpan 14 = .ok (.lload_n 0, 1) := by decide +kernel
theorem dX8_isSpan_15 : decode cX8_isSpan 15 = .ok (.lload_n 2, 1) := by decide +kernel
theorem dX8_isSpan_16 : decode cX8_isSpan 16 = .ok (.lcmp, 1) := by decide +kernel
theorem dX8_isSpan_17 : decode cX8_isSpan 17 = .ok (.ifCond .gt 7, 3) := by decide +kernel
theorem dX8_isSpan_20 : decode cX8_isSpan 20 = .ok (.iconst 1, 1) := by decide +kernel
theorem dX8_isSpan_21 : decode cX8_isSpan 21 = .ok (.goto 4, 3) := by decide +kernel
theorem dX8_isSpan_24 : decode cX8_isSpan 24 = .ok (.iconst 0, 1) := by decide +kernel
theorem dX8_isSpan_25 : decode cX8_isSpan 25 = .ok (.ireturn, 1) := by decide +kernel
theorem dX8_isDayCount_0 : decode cX8_isDayCount 0 = .ok (.iload_n 0, 1) := by decide +kernel
theorem dX8_isDayCount_1 : decode cX8_isDayCount 1 = .ok (.iconst 1, 1) := by decide +kernel
theorem dX8_isDayCount_2 : decode cX8_isDayCount 2 = .ok (.if_icmp .lt 14, 3) := by decide +kernel
theorem dX8_isDayCount_5 : decode cX8_isDayCount 5 = .ok (.iload_n 0, 1) := by decide +kernel
theorem dX8_isDayCount_6 : decode cX8_isDayCount 6 = .ok (.sipush 400, 3) := by decide +kernel
theorem dX8_isDayCount_9 : decode cX8_isDayCount 9 = .ok (.if_icmp .gt 7, 3) := by decide +kernel
theorem dX8_isDayCount_12 : decode cX8_isDayCount 12 = .ok (.iconst 1, 1) := by decide +kernel
theorem dX8_isDayCount_13 : decode cX8_isDayCount 13 = .ok (.goto 4, 3) := by decide +kernel
theorem dX8_isDayCount_16 : decode cX8_isDayCount 16 = .ok (.iconst 0, 1) := by decide +kernel
theorem dX8_isDayCount_17 : decode cX8_isDayCount 17 = .ok (.ireturn, 1) := by decide +kernel
theorem dX8_isDoor_0 : decode cX8_isDoor 0 = .ok (.iload_n 0, 1) := by decide +kernel
theorem dX8_isDoor_1 : decode cX8_isDoor 1 = .ok (.ifCond .lt 13, 3) := by decide +kernel
theorem dX8_isDoor_4 : decode cX8_isDoor 4 = .ok (.iload_n 0, 1) := by decide +kernel
theorem dX8_isDoor_5 : decode cX8_isDoor 5 = .ok (.bipush 8, 2) := by decide +kernel
theorem dX8_isDoor_7 : decode cX8_isDoor 7 = .ok (.if_icmp .gt 7, 3) := by decide +kernel
theorem dX8_isDoor_10 : decode cX8_isDoor 10 = .ok (.iconst 1, 1) := by decide +kernel
theorem dX8_isDoor_11 : decode cX8_isDoor 11 = .ok (.goto 4, 3) := by decide +kernel
theorem dX8_isDoor_14 : decode cX8_isDoor 14 = .ok (.iconst 0, 1) := by decide +kernel
theorem dX8_isDoor_15 : decode cX8_isDoor 15 = .ok (.ireturn, 1) := by decide +kernel
theorem dX8_isWheel_0 : decode cX8_isWheel 0 = .ok (.iload_n 0, 1) := by decide +kernel
theorem dX8_isWheel_1 : decode cX8_isWheel 1 = .ok (.iconst 2, 1) := by decide +kernel
theorem dX8_isWheel_2 : decode cX8_isWheel 2 = .ok (.if_icmp .lt 22, 3) := by decide +kernel
theorem dX8_isWheel_5 : decode cX8_isWheel 5 = .ok (.iload_n 0, 1) := by decide +kernel
theorem dX8_isWheel_6 : decode cX8_isWheel 6 = .ok (.bipush 60, 2) := by decide +kernel
theorem dX8_isWheel_8 : decode cX8_isWheel 8 = .ok (.if_icmp .gt 16, 3) := by decide +kernel
theorem dX8_isWheel_11 : decode cX8_isWheel 11 = .ok (.iload_n 1, 1) := by decide +kernel
theorem dX8_isWheel_12 : decode cX8_isWheel 12 = .ok (.ifCond .lt 12, 3) := by decide +kernel
theorem dX8_isWheel_15 : decode cX8_isWheel 15 = .ok (.iload_n 1, 1) := by decide +kernel
theorem dX8_isWheel_16 : decode cX8_isWheel 16 = .ok (.iload_n 0, 1) := by decide +kernel
theorem dX8_isWheel_17 : decode cX8_isWheel 17 = .ok (.if_icmp .ge 7, 3) := by decide +kernel
theorem dX8_isWheel_20 : decode cX8_isWheel 20 = .ok (.iconst 1, 1) := by decide +kernel
theorem dX8_isWheel_21 : decode cX8_isWheel 21 = .ok (.goto 4, 3) := by decide +kernel
theorem dX8_isWheel_24 : decode cX8_isWheel 24 = .ok (.iconst 0, 1) := by decide +kernel
theorem dX8_isWheel_25 : decode cX8_isWheel 25 = .ok (.ireturn, 1) := by decide +kernel
theorem dX8_isYesOrNo_0 : decode cX8_isYesOrNo 0 = .ok (.iload_n 0, 1) := by decide +kernel
theorem dX8_isYesOrNo_1 : decode cX8_isYesOrNo 1 = .ok (.ifCond .eq 8, 3) := by decide +kernel
theorem dX8_isYesOrNo_4 : decode cX8_isYesOrNo 4 = .ok (.iload_n 0, 1) := by decide +kernel
theorem dX8_isYesOrNo_5 : decode cX8_isYesOrNo 5 = .ok (.iconst 1, 1) := by decide +kernel
theorem dX8_isYesOrNo_6 : decode cX8_isYesOrNo 6 = .ok (.if_icmp .ne 7, 3) := by decide +kernel
theorem dX8_isYesOrNo_9 : decode cX8_isYesOrNo 9 = .ok (.iconst 1, 1) := by decide +kernel
theorem dX8_isYesOrNo_10 : decode cX8_isYesOrNo 10 = .ok (.goto 4, 3) := by decide +kernel
theorem dX8_isYesOrNo_13 : decode cX8_isYesOrNo 13 = .ok (.iconst 0, 1) := by decide +kernel
theorem dX8_isYesOrNo_14 : decode cX8_isYesOrNo 14 = .ok (.ireturn, 1) := by decide +kernel
theorem dX8_isImage_0 : decode cX8_isImage 0 = .ok (.iload_n 0, 1) := by decide +kernel
theorem dX8_isImage_1 : decode cX8_isImage 1 = .ok (.ifCond .lt 12, 3) := by decide +kernel
theorem dX8_isImage_4 : decode cX8_isImage 4 = .ok (.iload_n 0, 1) := by decide +kernel
theorem dX8_isImage_5 : decode cX8_isImage 5 = .ok (.iconst 2, 1) := by decide +kernel
theorem dX8_isImage_6 : decode cX8_isImage 6 = .ok (.if_icmp .ge 7, 3) := by decide +kernel
theorem dX8_isImage_9 : decode cX8_isImage 9 = .ok (.iconst 1, 1) := by decide +kernel
theorem dX8_isImage_10 : decode cX8_isImage 10 = .ok (.goto 4, 3) := by decide +kernel
theorem dX8_isImage_13 : decode cX8_isImage 13 = .ok (.iconst 0, 1) := by decide +kernel
theorem dX8_isImage_14 : decode cX8_isImage 14 = .ok (.ireturn, 1) := by decide +kernel
theorem dX8_isSheet_0 : decode cX8_isSheet 0 = .ok (.iload_n 0, 1) := by decide +kernel
theorem dX8_isSheet_1 : decode cX8_isSheet 1 = .ok (.ifCond .lt 12, 3) := by decide +kernel
theorem dX8_isSheet_4 : decode cX8_isSheet 4 = .ok (.iload_n 0, 1) := by decide +kernel
theorem dX8_isSheet_5 : decode cX8_isSheet 5 = .ok (.iconst 4, 1) := by decide +kernel
theorem dX8_isSheet_6 : decode cX8_isSheet 6 = .ok (.if_icmp .ge 7, 3) := by decide +kernel
theorem dX8_isSheet_9 : decode cX8_isSheet 9 = .ok (.iconst 1, 1) := by decide +kernel
theorem dX8_isSheet_10 : decode cX8_isSheet 10 = .ok (.goto 4, 3) := by decide +kernel
theorem dX8_isSheet_13 : decode cX8_isSheet 13 = .ok (.iconst 0, 1) := by decide +kernel
theorem dX8_isSheet_14 : decode cX8_isSheet 14 = .ok (.ireturn, 1) := by decide +kernel
theorem dX8_isLane_0 : decode cX8_isLane 0 = .ok (.iload_n 0, 1) := by decide +kernel
theorem dX8_isLane_1 : decode cX8_isLane 1 = .ok (.ifCond .lt 12, 3) := by decide +kernel
theorem dX8_isLane_4 : decode cX8_isLane 4 = .ok (.iload_n 0, 1) := by decide +kernel
theorem dX8_isLane_5 : decode cX8_isLane 5 = .ok (.iconst 2, 1) := by decide +kernel
theorem dX8_isLane_6 : decode cX8_isLane 6 = .ok (.if_icmp .gt 7, 3) := by decide +kernel
theorem dX8_isLane_9 : decode cX8_isLane 9 = .ok (.iconst 1, 1) := by decide +kernel
theorem dX8_isLane_10 : decode cX8_isLane 10 = .ok (.goto 4, 3) := by decide +kernel
theorem dX8_isLane_13 : decode cX8_isLane 13 = .ok (.iconst 0, 1) := by decide +kernel
theorem dX8_isLane_14 : decode cX8_isLane 14 = .ok (.ireturn, 1) := by decide +kernel
theorem dX8_addSight_0 : decode cX8_addSight 0 = .ok (.aload_n 0, 1) := by decide +kernel
theorem dX8_addSight_1 : decode cX8_addSight 1 = .ok (.iload_n 1, 1) := by decide +kernel
theorem dX8_addSight_2 : decode cX8_addSight 2 = .ok (.invokevirtual 116, 3) := by decide +kernel
theorem dX8_addSight_5 : decode cX8_addSight 5 = .ok (.ifCond .eq 14, 3) := by decide +kernel
theorem dX8_addSight_8 : decode cX8_addSight 8 = .ok (.iload_n 2, 1) := by decide +kernel
theorem dX8_addSight_9 : decode cX8_addSight 9 = .ok (.ifCond .lt 10, 3) := by decide +kernel
theorem dX8_addSight_12 : decode cX8_addSight 12 = .ok (.iload_n 2, 1) := by decide +kernel
theorem dX8_addSight_13 : decode cX8_addSight 13 = .ok (.sipush 30000, 3) := by decide +kernel
theorem dX8_addSight_16 : decode cX8_addSight 16 = .ok (.if_icmp .le 5, 3) := by decide +kernel
theorem dX8_addSight_19 : decode cX8_addSight 19 = .ok (.iconst (-1), 1) := by decide +kernel
theorem dX8_addSight_20 : decode cX8_addSight 20 = .ok (.ireturn, 1) := by decide +kernel
theorem dX8_addSight_21 : decode cX8_addSight 21 = .ok (.aload_n 0, 1) := by decide +kernel
theorem dX8_addSight_22 : decode cX8_addSight 22 = .ok (.getfield 19, 3) := by decide +kernel
theorem dX8_addSight_25 : decode cX8_addSight 25 = .ok (.getfield 274, 3) := by decide +kernel
theorem dX8_addSight_28 : decode cX8_addSight 28 = .ok (.bipush 12, 2) := by decide +kernel
theorem dX8_addSight_30 : decode cX8_addSight 30 = .ok (.if_icmp .lt 6, 3) := by decide +kernel
theorem dX8_addSight_33 : decode cX8_addSight 33 = .ok (.bipush (-3), 2) := by decide +kernel
theorem dX8_addSight_35 : decode cX8_addSight 35 = .ok (.ireturn, 1) := by decide +kernel
theorem dX8_addSight_36 : decode cX8_addSight 36 = .ok (.aload_n 0, 1) := by decide +kernel
theorem dX8_addSight_37 : decode cX8_addSight 37 = .ok (.getfield 19, 3) := by decide +kernel
theorem dX8_addSight_40 : decode cX8_addSight 40 = .ok (.getfield 330, 3) := by decide +kernel
theorem dX8_addSight_43 : decode cX8_addSight 43 = .ok (.aload_n 0, 1) := by decide +kernel
theorem dX8_addSight_44 : decode cX8_addSight 44 = .ok (.getfield 19, 3) := by decide +kernel
theorem dX8_addSight_47 : decode cX8_addSight 47 = .ok (.getfield 274, 3) := by decide +kernel
theorem dX8_addSight_50 : decode cX8_addSight 50 = .ok (.aaload, 1) := by decide +kernel
theorem dX8_addSight_51 : decode cX8_addSight 51 = .ok (.iload_n 1, 1) := by decide +kernel
theorem dX8_addSight_52 : decode cX8_addSight 52 = .ok (.iload_n 2, 1) := by decide +kernel
theorem dX8_addSight_53 : decode cX8_addSight 53 = .ok (.iload_n 3, 1) := by decide +kernel
theorem dX8_addSight_54 : decode cX8_addSight 54 = .ok (.invokevirtual 334, 3) := by decide +kernel
theorem dX8_addSight_57 : decode cX8_addSight 57 = .ok (.aload_n 0, 1) := by decide +kernel
theorem dX8_addSight_58 : decode cX8_addSight 58 = .ok (.getfield 19, 3) := by decide +kernel
theorem dX8_addSight_61 : decode cX8_addSight 61 = .ok (.dup, 1) := by decide +kernel
theorem dX8_addSight_62 : decode cX8_addSight 62 = .ok (.getfield 274, 3) := by decide +kernel
theorem dX8_addSight_65 : decode cX8_addSight 65 = .ok (.iconst 1, 1) := by decide +kernel
theorem dX8_addSight_66 : decode cX8_addSight 66 = .ok (.iadd, 1) := by decide +kernel
theorem dX8_addSight_67 : decode cX8_addSight 67 = .ok (.putfield 274, 3) := by decide +kernel
theorem dX8_addSight_70 : decode cX8_addSight 70 = .ok (.aload_n 0, 1) := by decide +kernel
theorem dX8_addSight_71 : decode cX8_addSight 71 = .ok (.getfield 19, 3) := by decide +kernel
theorem dX8_addSight_74 : decode cX8_addSight 74 = .ok (.getfield 274, 3) := by decide +kernel
theorem dX8_addSight_77 : decode cX8_addSight 77 = .ok (.ireturn, 1) := by decide +kernel
theorem dX8_addSightOf_0 : decode cX8_addSightOf 0 = .ok (.aload_n 1, 1) := by decide +kernel
theorem dX8_addSightOf_1 : decode cX8_addSightOf 1 = .ok (.getfield 340, 3) := by decide +kernel
theorem dX8_addSightOf_4 : decode cX8_addSightOf 4 = .ok (.iload_n 2, 1) := by decide +kernel
theorem dX8_addSightOf_5 : decode cX8_addSightOf 5 = .ok (.iconst 2, 1) := by decide +kernel
theorem dX8_addSightOf_6 : decode cX8_addSightOf 6 = .ok (.iadd, 1) := by decide +kernel
theorem dX8_addSightOf_7 : decode cX8_addSightOf 7 = .ok (.iaload, 1) := by decide +kernel
theorem dX8_addSightOf_8 : decode cX8_addSightOf 8 = .ok (.istore_n 3, 1) := by decide +kernel
theorem dX8_addSightOf_9 : decode cX8_addSightOf 9 = .ok (.iload_n 3, 1) := by decide +kernel
theorem dX8_addSightOf_10 : decode cX8_addSightOf 10 = .ok (.invokestatic 207, 3) := by decide +kernel
theorem dX8_addSightOf_13 : decode cX8_addSightOf 13 = .ok (.ifCond .eq 38, 3) := by decide +kernel
theorem dX8_addSightOf_16 : decode cX8_addSightOf 16 = .ok (.aload_n 0, 1) := by decide +kernel
theorem dX8_addSightOf_17 : decode cX8_addSightOf 17 = .ok (.aload_n 1, 1) := by decide +kernel
theorem dX8_addSightOf_18 : decode cX8_addSightOf 18 = .ok (.getfield 340, 3) := by decide +kernel
theorem dX8_addSightOf_21 : decode cX8_addSightOf 21 = .ok (.iload_n 2, 1) := by decide +kernel
theorem dX8_addSightOf_22 : decode cX8_addSightOf 22 = .ok (.iaload, 1) := by decide +kernel
theorem dX8_addSightOf_23 : decode cX8_addSightOf 23 = .ok (.aload_n 1, 1) := by decide +kernel
theorem dX8_addSightOf_24 : decode cX8_addSightOf 24 = .ok (.getfield 340, 3) := by decide +kernel
theorem dX8_addSightOf_27 : decode cX8_addSightOf 27 = .ok (.iload_n 2, 1) := by decide +kernel
theorem dX8_addSightOf_28 : decode cX8_addSightOf 28 = .ok (.iconst 1, 1) := by decide +kernel
theorem dX8_addSightOf_29 : decode cX8_addSightOf 29 = .ok (.iadd, 1) := by decide +kernel
theorem dX8_addSightOf_30 : decode cX8_addSightOf 30 = .ok (.iaload, 1) := by decide +kernel
theorem dX8_addSightOf_31 : decode cX8_addSightOf 31 = .ok (.iload_n 3, 1) := by decide +kernel
theorem dX8_addSightOf_32 : decode cX8_addSightOf 32 = .ok (.iconst 1, 1) := by decide +kernel
theorem dX8_addSightOf_33 : decode cX8_addSightOf 33 = .ok (.if_icmp .ne 7, 3) := by decide +kernel
theorem dX8_addSightOf_36 : decode cX8_addSightOf 36 = .ok (.iconst 1, 1) := by decide +kernel
theorem dX8_addSightOf_37 : decode cX8_addSightOf 37 = .ok (.goto 4, 3) := by decide +kernel
theorem dX8_addSightOf_40 : decode cX8_addSightOf 40 = .ok (.iconst 0, 1) := by decide +kernel
theorem dX8_addSightOf_41 : decode cX8_addSightOf 41 = .ok (.invokevirtual 270, 3) := by decide +kernel
theorem dX8_addSightOf_44 : decode cX8_addSightOf 44 = .ok (.ifCond .le 7, 3) := by decide +kernel
theorem dX8_addSightOf_47 : decode cX8_addSightOf 47 = .ok (.iconst 1, 1) := by decide +kernel
theorem dX8_addSightOf_48 : decode cX8_addSightOf 48 = .ok (.goto 4, 3) := by decide +kernel
theorem dX8_addSightOf_51 : decode cX8_addSightOf 51 = .ok (.iconst 0, 1) := by decide +kernel
theorem dX8_addSightOf_52 : decode cX8_addSightOf 52 = .ok (.ireturn, 1) := by decide +kernel
theorem dX8_countFrights_0 : decode cX8_countFrights 0 = .ok (.iconst 0, 1) := by decide +kernel
theorem dX8_countFrights_1 : decode cX8_countFrights 1 = .ok (.istore 4, 2) := by decide +kernel
theorem dX8_countFrights_3 : decode cX8_countFrights 3 = .ok (.iload 4, 2) := by decide +kernel
theorem dX8_countFrights_5 : decode cX8_countFrights 5 = .ok (.aload_n 0, 1) := by decide +kernel
theorem dX8_countFrights_6 : decode cX8_countFrights 6 = .ok (.getfield 61, 3) := by decide +kernel
theorem dX8_countFrights_9 : decode cX8_countFrights 9 = .ok (.arraylength, 1) := by decide +kernel
theorem dX8_countFrights_10 : decode cX8_countFrights 10 = .ok (.if_icmp .ge 17, 3) := by decide +kernel
theorem dX8_countFrights_13 : decode cX8_countFrights 13 = .ok (.aload_n 0, 1) := by decide +kernel
theorem dX8_countFrights_14 : decode cX8_countFrights 14 = .ok (.getfield 61, 3) := by decide +kernel
theorem dX8_countFrights_17 : decode cX8_countFrights 17 = .ok (.iload 4, 2) := by decide +kernel
theorem dX8_countFrights_19 : decode cX8_countFrights 19 = .ok (.iconst 0, 1) := by decide +kernel
theorem dX8_countFrights_20 : decode cX8_countFrights 20 = .ok (.iastore, 1) := by decide +kernel
theorem dX8_countFrights_21 : decode cX8_countFrights 21 = .ok (.iinc 4 1, 3) := by decide +kernel
theorem dX8_countFrights_24 : decode cX8_countFrights 24 = .ok (.goto (-21), 3) := by decide +kernel
theorem dX8_countFrights_27 : decode cX8_countFrights 27 = .ok (.iconst 0, 1) := by decide +kernel
theorem dX8_countFrights_28 : decode cX8_countFrights 28 = .ok (.istore 4, 2) := by decide +kernel
theorem dX8_countFrights_30 : decode cX8_countFrights 30 = .ok (.iload 4, 2) := by decide +kernel
theorem dX8_countFrights_32 : decode cX8_countFrights 32 = .ok (.iload_n 3, 1) := by decide +kernel
theorem dX8_countFrights_33 : decode cX8_countFrights 33 = .ok (.if_icmp .ge 71, 3) := by decide +kernel
theorem dX8_countFrights_36 : decode cX8_countFrights 36 = .ok (.aload_n 0, 1) := by decide +kernel
theorem dX8_countFrights_37 : decode cX8_countFrights 37 = .ok (.getfield 19, 3) := by decide +kernel
theorem dX8_countFrights_40 : decode cX8_countFrights 40 = .ok (.lload_n 1, 1) := by decide +kernel
theorem dX8_countFrights_41 : decode cX8_countFrights 41 = .ok (.iload 4, 2) := by decide +kernel
theorem dX8_countFrights_43 : decode cX8_countFrights 43 = .ok (.i2l, 1) := by decide +kernel
theorem dX8_countFrights_44 : decode cX8_countFrights 44 = .ok (.ladd, 1) := by decide +kernel
theorem dX8_countFrights_45 : decode cX8_countFrights 45 = .ok (.invokevirtual 229, 3) := by decide +kernel
theorem dX8_countFrights_48 : decode cX8_countFrights 48 = .ok (.istore 5, 2) := by decide +kernel
theorem dX8_countFrights_50 : decode cX8_countFrights 50 = .ok (.iconst 0, 1) := by decide +kernel
theorem dX8_countFrights_51 : decode cX8_countFrights 51 = .ok (.istore 6, 2) := by decide +kernel
theorem dX8_countFrights_53 : decode cX8_countFrights 53 = .ok (.iload 6, 2) := by decide +kernel
theorem dX8_countFrights_55 : decode cX8_countFrights 55 = .ok (.aload_n 0, 1) := by decide +kernel
theorem dX8_countFrights_56 : decode cX8_countFrights 56 = .ok (.getfield 61, 3) := by decide +kernel
theorem dX8_countFrights_59 : decode cX8_countFrights 59 = .ok (.arraylength, 1) := by decide +kernel
theorem dX8_countFrights_60 : decode cX8_countFrights 60 = .ok (.if_icmp .ge 38, 3) := by decide +kernel
theorem dX8_countFrights_63 : decode cX8_countFrights 63 = .ok (.iload 5, 2) := by decide +kernel
theorem dX8_countFrights_65 : decode cX8_countFrights 65 = .ok (.iload 6, 2) := by decide +kernel
theorem dX8_countFrights_67 : decode cX8_countFrights 67 = .ok (.aload_n 0, 1) := by decide +kernel
theorem dX8_countFrights_68 : decode cX8_countFrights 68 = .ok (.getfield 19, 3) := by decide +kernel
theorem dX8_countFrights_71 : decode cX8_countFrights 71 = .ok (.getfield 110, 3) := by decide +kernel
theorem dX8_countFrights_74 : decode cX8_countFrights 74 = .ok (.invokestatic 343, 3) := by decide +kernel
theorem dX8_countFrights_77 : decode cX8_countFrights 77 = .ok (.iand, 1) := by decide +kernel
theorem dX8_countFrights_78 : decode cX8_countFrights 78 = .ok (.ifCond .eq 14, 3) := by decide +kernel
theorem dX8_countFrights_81 : decode cX8_countFrights 81 = .ok (.aload_n 0, 1) := by decide +kernel
theorem dX8_countFrights_82 : decode cX8_countFrights 82 = .ok (.getfield 61, 3) := by decide +kernel
theorem dX8_countFrights_85 : decode cX8_countFrights 85 = .ok (.iload 6, 2) := by decide +kernel
theorem dX8_countFrights_87 : decode cX8_countFrights 87 = .ok (.dup2, 1) := by decide +kernel
theorem dX8_countFrights_88 : decode cX8_countFrights 88 = .ok (.iaload, 1) := by decide +kernel
theorem dX8_countFrights_89 : decode cX8_countFrights 89 = .ok (.iconst 1, 1) := by decide +kernel
theorem dX8_countFrights_90 : decode cX8_countFrights 90 = .ok (.iadd, 1) := by decide +kernel
theorem dX8_countFrights_91 : decode cX8_countFrights 91 = .ok (.iastore, 1) := by decide +kernel
theorem dX8_countFrights_92 : decode cX8_countFrights 92 = .ok (.iinc 6 1, 3) := by decide +kernel
theorem dX8_countFrights_95 : decode cX8_countFrights 95 = .ok (.goto (-42), 3) := by decide +kernel
theorem dX8_countFrights_98 : decode cX8_countFrights 98 = .ok (.iinc 4 1, 3) := by decide +kernel
theorem dX8_countFrights_101 : decode cX8_countFrights 101 = .ok (.goto (-71), 3) := by decide +kernel
theorem dX8_countFrights_104 : decode cX8_countFrights 104 = .ok (.return_, 1) := by decide +kernel
theorem dX8_near_0 : decode cX8_near 0 = .ok (.iconst 0, 1) := by decide +kernel
theorem dX8_near_1 : decode cX8_near 1 = .ok (.iload_n 0, 1) := by decide +kernel
theorem dX8_near_2 : decode cX8_near 2 = .ok (.iload_n 1, 1) := by decide +kernel
theorem dX8_near_3 : decode cX8_near 3 = .ok (.isub, 1) := by decide +kernel
theorem dX8_near_4 : decode cX8_near 4 = .ok (.invokestatic 347, 3) := by decide +kernel
theorem dX8_near_7 : decode cX8_near 7 = .ok (.istore_n 2, 1) := by decide +kernel
theorem dX8_near_8 : decode cX8_near 8 = .ok (.bipush 8, 2) := by decide +kernel
theorem dX8_near_10 : decode cX8_near 10 = .ok (.iload_n 0, 1) := by decide +kernel
theorem dX8_near_11 : decode cX8_near 11 = .ok (.iload_n 1, 1) := by decide +kernel
theorem dX8_near_12 : decode cX8_near 12 = .ok (.iadd, 1) := by decide +kernel
theorem dX8_near_13 : decode cX8_near 13 = .ok (.invokestatic 352, 3) := by decide +kernel
theorem dX8_near_16 : decode cX8_near 16 = .ok (.istore_n 3, 1) := by decide +kernel
theorem dX8_near_17 : decode cX8_near 17 = .ok (.iconst 1, 1) := by decide +kernel
theorem dX8_near_18 : decode cX8_near 18 = .ok (.iload_n 3, 1) := by decide +kernel
theorem dX8_near_19 : decode cX8_near 19 = .ok (.iconst 1, 1) := by decide +kernel
theorem dX8_near_20 : decode cX8_near 20 = .ok (.iadd, 1) := by decide +kernel
theorem dX8_near_21 : decode cX8_near 21 = .ok (.ishl, 1) := by decide +kernel
theorem dX8_near_22 : decode cX8_near 22 = .ok (.iconst 1, 1) := by decide +kernel
theorem dX8_near_23 : decode cX8_near 23 = .ok (.iload_n 2, 1) := by decide +kernel
theorem dX8_near_24 : decode cX8_near 24 = .ok (.ishl, 1) := by decide +kernel
theorem dX8_near_25 : decode cX8_near 25 = .ok (.isub, 1) := by decide +kernel
theorem dX8_near_26 : decode cX8_near 26 = .ok (.ireturn, 1) := by decide +kernel
theorem dX8_yearOf_0 : decode cX8_yearOf 0 = .ok (.lload_n 0, 1) := by decide +kernel
theorem dX8_yearOf_1 : decode cX8_yearOf 1 = .ok (.ldc2_w 355, 3) := by decide +kernel
theorem dX8_yearOf_4 : decode cX8_yearOf 4 = .ok (.invokestatic 181, 3) := by decide +kernel
theorem dX8_yearOf_7 : decode cX8_yearOf 7 = .ok (.l2i, 1) := by decide +kernel
theorem dX8_yearOf_8 : decode cX8_yearOf 8 = .ok (.istore_n 2, 1) := by decide +kernel
theorem dX8_yearOf_9 : decode cX8_yearOf 9 = .ok (.lload_n 0, 1) := by decide +kernel
theorem dX8_yearOf_10 : decode cX8_yearOf 10 = .ok (.ldc2_w 355, 3) := by decide +kernel
theorem dX8_yearOf_13 : decode cX8_yearOf 13 = .ok (.ldiv, 1) := by decide +kernel
theorem dX8_yearOf_14 : decode cX8_yearOf 14 = .ok (.ldc2_w 357, 3) := by decide +kernel
theorem dX8_yearOf_17 : decode cX8_yearOf 17 = .ok (.lmul, 1) := by decide +kernel
theorem dX8_yearOf_18 : decode cX8_yearOf 18 = .ok (.lstore_n 3, 1) := by decide +kernel
theorem dX8_yearOf_19 : decode cX8_yearOf 19 = .ok (.iload_n 2, 1) := by decide +kernel
theorem dX8_yearOf_20 : decode cX8_yearOf 20 = .ok (.sipush 366, 3) := by decide +kernel
theorem dX8_yearOf_23 : decode cX8_yearOf 23 = .ok (.if_icmp .ge 7, 3) := by decide +kernel
theorem dX8_yearOf_26 : decode cX8_yearOf 26 = .ok (.lload_n 3, 1) := by decide +kernel
theorem dX8_yearOf_27 : decode cX8_yearOf 27 = .ok (.goto 17, 3) := by decide +kernel
theorem dX8_yearOf_30 : decode cX8_yearOf 30 = .ok (.lload_n 3, 1) := by decide +kernel
theorem dX8_yearOf_31 : decode cX8_yearOf 31 = .ok (.lconst 1, 1) := by decide +kernel
theorem dX8_yearOf_32 : decode cX8_yearOf 32 = .ok (.ladd, 1) := by decide +kernel
theorem dX8_yearOf_33 : decode cX8_yearOf 33 = .ok (.iload_n 2, 1) := by decide +kernel
theorem dX8_yearOf_34 : decode cX8_yearOf 34 = .ok (.sipush 366, 3) := by decide +kernel
theorem dX8_yearOf_37 : decode cX8_yearOf 37 = .ok (.isub, 1) := by decide +kernel
theorem dX8_yearOf_38 : decode cX8_yearOf 38 = .ok (.sipush 365, 3) := by decide +kernel
theorem dX8_yearOf_41 : decode cX8_yearOf 41 = .ok (.idiv, 1) := by decide +kernel
theorem dX8_yearOf_42 : decode cX8_yearOf 42 = .ok (.i2l, 1) := by decide +kernel
theorem dX8_yearOf_43 : decode cX8_yearOf 43 = .ok (.ladd, 1) := by decide +kernel
theorem dX8_yearOf_44 : decode cX8_yearOf 44 = .ok (.lreturn, 1) := by decide +kernel
theorem dX8_dayOfYear_0 : decode cX8_dayOfYear 0 = .ok (.lload_n 0, 1) := by decide +kernel
theorem dX8_dayOfYear_1 : decode cX8_dayOfYear 1 = .ok (.ldc2_w 355, 3) := by decide +kernel
theorem dX8_dayOfYear_4 : decode cX8_dayOfYear 4 = .ok (.invokestatic 181, 3) := by decide +kernel
theorem dX8_dayOfYear_7 : decode cX8_dayOfYear 7 = .ok (.l2i, 1) := by decide +kernel
theorem dX8_dayOfYear_8 : decode cX8_dayOfYear 8 = .ok (.istore_n 2, 1) := by decide +kernel
theorem dX8_dayOfYear_9 : decode cX8_dayOfYear 9 = .ok (.iload_n 2, 1) := by decide +kernel
theorem dX8_dayOfYear_10 : decode cX8_dayOfYear 10 = .ok (.sipush 366, 3) := by decide +kernel
theorem dX8_dayOfYear_13 : decode cX8_dayOfYear 13 = .ok (.if_icmp .ge 7, 3) := by decide +kernel
theorem dX8_dayOfYear_16 : decode cX8_dayOfYear 16 = .ok (.iload_n 2, 1) := by decide +kernel
theorem dX8_dayOfYear_17 : decode cX8_dayOfYear 17 = .ok (.goto 12, 3) := by decide +kernel
theorem dX8_dayOfYear_20 : decode cX8_dayOfYear 20 = .ok (.iload_n 2, 1) := by decide +kernel
theorem dX8_dayOfYear_21 : decode cX8_dayOfYear 21 = .ok (.sipush 366, 3) := by decide +kernel
theorem dX8_dayOfYear_24 : decode cX8_dayOfYear 24 = .ok (.isub, 1) := by decide +kernel
theorem dX8_dayOfYear_25 : decode cX8_dayOfYear 25 = .ok (.sipush 365, 3) := by decide +kernel
theorem dX8_dayOfYear_28 : decode cX8_dayOfYear 28 = .ok (.irem, 1) := by decide +kernel
theorem dX8_dayOfYear_29 : decode cX8_dayOfYear 29 = .ok (.ireturn, 1) := by decide +kernel
theorem dX8_rest_0 : decode cX8_rest 0 = .ok (.lload_n 2, 1) := by decide +kernel
theorem dX8_rest_1 : decode cX8_rest 1 = .ok (.lconst 1, 1) := by decide +kernel
theorem dX8_rest_2 : decode cX8_rest 2 = .ok (.lcmp, 1) := by decide +kernel
theorem dX8_rest_3 : decode cX8_rest 3 = .ok (.ifCond .ge 5, 3) := by decide +kernel
theorem dX8_rest_6 : decode cX8_rest 6 = .ok (.lconst 0, 1) := by decide +kernel
theorem dX8_rest_7 : decode cX8_rest 7 = .ok (.lreturn, 1) := by decide +kernel
theorem dX8_rest_8 : decode cX8_rest 8 = .ok (.lload_n 0, 1) := by decide +kernel
theorem dX8_rest_9 : decode cX8_rest 9 = .ok (.lload_n 2, 1) := by decide +kernel
theorem dX8_rest_10 : decode cX8_rest 10 = .ok (.lrem, 1) := by decide +kernel
theorem dX8_rest_11 : decode cX8_rest 11 = .ok (.lstore 4, 2) := by decide +kernel
theorem dX8_rest_13 : decode cX8_rest 13 = .ok (.lload 4, 2) := by decide +kernel
theorem dX8_rest_15 : decode cX8_rest 15 = .ok (.lconst 0, 1) := by decide +kernel
theorem dX8_rest_16 : decode cX8_rest 16 = .ok (.lcmp, 1) := by decide +kernel
theorem dX8_rest_17 : decode cX8_rest 17 = .ok (.ifCond .ge 10, 3) := by decide +kernel
theorem dX8_rest_20 : decode cX8_rest 20 = .ok (.lload 4, 2) := by decide +kernel
theorem dX8_rest_22 : decode cX8_rest 22 = .ok (.lload_n 2, 1) := by decide +kernel
theorem dX8_rest_23 : decode cX8_rest 23 = .ok (.ladd, 1) := by decide +kernel
theorem dX8_rest_24 : decode cX8_rest 24 = .ok (.goto 5, 3) := by decide +kernel
theorem dX8_rest_27 : decode cX8_rest 27 = .ok (.lload 4, 2) := by decide +kernel
theorem dX8_rest_29 : decode cX8_rest 29 = .ok (.lreturn, 1) := by decide +kernel
theorem dX8_commonDivisor_0 : decode cX8_commonDivisor 0 = .ok (.lload_n 0, 1) := by decide +kernel
theorem dX8_commonDivisor_1 : decode cX8_commonDivisor 1 = .ok (.lstore 4, 2) := by decide +kernel
theorem dX8_commonDivisor_3 : decode cX8_commonDivisor 3 = .ok (.lload_n 2, 1) := by decide +kernel
theorem dX8_commonDivisor_4 : decode cX8_commonDivisor 4 = .ok (.lstore 6, 2) := by decide +kernel
theorem dX8_commonDivisor_6 : decode cX8_commonDivisor 6 = .ok (.iconst 0, 1) := by decide +kernel
theorem dX8_commonDivisor_7 : decode cX8_commonDivisor 7 = .ok (.istore 8, 2) := by decide +kernel
theorem dX8_commonDivisor_9 : decode cX8_commonDivisor 9 = .ok (.iload 8, 2) := by decide +kernel
theorem dX8_commonDivisor_11 : decode cX8_commonDivisor 11 = .ok (.sipush 200, 3) := by decide +kernel
theorem dX8_commonDivisor_14 : decode cX8_commonDivisor 14 = .ok (.if_icmp .ge 31, 3) := by decide +kernel
theorem dX8_commonDivisor_17 : decode cX8_commonDivisor 17 = .ok (.lload 6, 2) := by decide +kernel
theorem dX8_commonDivisor_19 : decode cX8_commonDivisor 19 = .ok (.lconst 0, 1) := by decide +kernel
theorem dX8_commonDivisor_20 : decode cX8_commonDivisor 20 = .ok (.lcmp, 1) := by decide +kernel
theorem dX8_commonDivisor_21 : decode cX8_commonDivisor 21 = .ok (.ifCond .le 24, 3) := by decide +kernel
theorem dX8_commonDivisor_24 : decode cX8_commonDivisor 24 = .ok (.lload 4, 2) := by decide +kernel
theorem dX8_commonDivisor_26 : decode cX8_commonDivisor 26 = .ok (.lload 6, 2) := by decide +kernel
theorem dX8_commonDivisor_28 : decode cX8_commonDivisor 28 = .ok (.lrem, 1) := by decide +kernel
theorem dX8_commonDivisor_29 : decode cX8_commonDivisor 29 = .ok (.lstore 9, 2) := by decide +kernel
theorem dX8_commonDivisor_31 : decode cX8_commonDivisor 31 = .ok (.lload 6, 2) := by decide +kernel
theorem dX8_commonDivisor_33 : decode cX8_commonDivisor 33 = .ok (.lstore 4, 2) := by decide +kernel
theorem dX8_commonDivisor_35 : decode cX8_commonDivisor 35 = .ok (.lload 9, 2) := by decide +kernel
theorem dX8_commonDivisor_37 : decode cX8_commonDivisor 37 = .ok (.lstore 6, 2) := by decide +kernel
theorem dX8_commonDivisor_39 : decode cX8_commonDivisor 39 = .ok (.iinc 8 1, 3) := by decide +kernel
theorem dX8_commonDivisor_42 : decode cX8_commonDivisor 42 = .ok (.goto (-33), 3) := by decide +kernel
theorem dX8_commonDivisor_45 : decode cX8_commonDivisor 45 = .ok (.lload 4, 2) := by decide +kernel
theorem dX8_commonDivisor_47 : decode cX8_commonDivisor 47 = .ok (.lconst 1, 1) := by decide +kernel
theorem dX8_commonDivisor_48 : decode cX8_commonDivisor 48 = .ok (.invokestatic 359, 3) := by decide +kernel
theorem dX8_commonDivisor_51 : decode cX8_commonDivisor 51 = .ok (.lreturn, 1) := by decide +kernel
theorem dX8_lowestBit_0 : decode cX8_lowestBit 0 = .ok (.iconst 0, 1) := by decide +kernel
theorem dX8_lowestBit_1 : decode cX8_lowestBit 1 = .ok (.istore_n 2, 1) := by decide +kernel
theorem dX8_lowestBit_2 : decode cX8_lowestBit 2 = .ok (.iload_n 2, 1) := by decide +kernel
theorem dX8_lowestBit_3 : decode cX8_lowestBit 3 = .ok (.bipush 60, 2) := by decide +kernel
theorem dX8_lowestBit_5 : decode cX8_lowestBit 5 = .ok (.if_icmp .ge 21, 3) := by decide +kernel
theorem dX8_lowestBit_8 : decode cX8_lowestBit 8 = .ok (.lload_n 0, 1) := by decide +kernel
theorem dX8_lowestBit_9 : decode cX8_lowestBit 9 = .ok (.iload_n 2, 1) := by decide +kernel
theorem dX8_lowestBit_10 : decode cX8_lowestBit 10 = .ok (.lushr, 1) := by decide +kernel
theorem dX8_lowestBit_11 : decode cX8_lowestBit 11 = .ok (.lconst 1, 1) := by decide +kernel
theorem dX8_lowestBit_12 : decode cX8_lowestBit 12 = .ok (.land, 1) := by decide +kernel
theorem dX8_lowestBit_13 : decode cX8_lowestBit 13 = .ok (.lconst 0, 1) := by decide +kernel
theorem dX8_lowestBit_14 : decode cX8_lowestBit 14 = .ok (.lcmp, 1) := by decide +kernel
theorem dX8_lowestBit_15 : decode cX8_lowestBit 15 = .ok (.ifCond .eq 5, 3) := by decide +kernel
theorem dX8_lowestBit_18 : decode cX8_lowestBit 18 = .ok (.iload_n 2, 1) := by decide +kernel
theorem dX8_lowestBit_19 : decode cX8_lowestBit 19 = .ok (.ireturn, 1) := by decide +kernel
theorem dX8_lowestBit_20 : decode cX8_lowestBit 20 = .ok (.iinc 2 1, 3) := by decide +kernel
theorem dX8_lowestBit_23 : decode cX8_lowestBit 23 = .ok (.goto (-21), 3) := by decide +kernel
theorem dX8_lowestBit_26 : decode cX8_lowestBit 26 = .ok (.iconst 0, 1) := by decide +kernel
theorem dX8_lowestBit_27 : decode cX8_lowestBit 27 = .ok (.ireturn, 1) := by decide +kernel
theorem dX9_init_0 : decode cX9_init 0 = .ok (.aload_n 0, 1) := by decide +kernel
theorem dX9_init_1 : decode cX9_init 1 = .ok (.invokespecial 1, 3) := by decide +kernel
theorem dX9_init_4 : decode cX9_init 4 = .ok (.aload_n 0, 1) := by decide +kernel
theorem dX9_init_5 : decode cX9_init 5 = .ok (.sipush 324, 3) := by decide +kernel
theorem dX9_init_8 : decode cX9_init 8 = .ok (.newarray .int, 2) := by decide +kernel
theorem dX9_init_10 : decode cX9_init 10 = .ok (.putfield 7, 3) := by decide +kernel
theorem dX9_init_13 : decode cX9_init 13 = .ok (.aload_n 0, 1) := by decide +kernel
theorem dX9_init_14 : decode cX9_init 14 = .ok (.iconst 2, 1) := by decide +kernel
theorem dX9_init_15 : decode cX9_init 15 = .ok (.newarray .boolean, 2) := by decide +kernel
theorem dX9_init_17 : decode cX9_init 17 = .ok (.putfield 13, 3) := by decide +kernel
theorem dX9_init_20 : decode cX9_init 20 = .ok (.aload_n 0, 1) := by decide +kernel
theorem dX9_init_21 : decode cX9_init 21 = .ok (.bipush 108, 2) := by decide +kernel
theorem dX9_init_23 : decode cX9_init 23 = .ok (.newarray .int, 2) := by decide +kernel
theorem dX9_init_25 : decode cX9_init 25 = .ok (.putfield 17, 3) := by decide +kernel
theorem dX9_init_28 : decode cX9_init 28 = .ok (.aload_n 0, 1) := by decide +kernel
theorem dX9_init_29 : decode cX9_init 29 = .ok (.sipush 400, 3) := by decide +kernel
theorem dX9_init_32 : decode cX9_init 32 = .ok (.newarray .int, 2) := by decide +kernel
theorem dX9_init_34 : decode cX9_init 34 = .ok (.putfield 20, 3) := by decide +kernel
theorem dX9_init_37 : decode cX9_init 37 = .ok (.aload_n 0, 1) := by decide +kernel
theorem dX9_init_38 : decode cX9_init 38 = .ok (.ldc 23, 2) := by decide +kernel
theorem dX9_init_40 : decode cX9_init 40 = .ok (.newarray .long, 2) := by decide +kernel
theorem dX9_init_42 : decode cX9_init 42 = .ok (.putfield 24, 3) := by decide +kernel
theorem dX9_init_45 : decode cX9_init 45 = .ok (.aload_n 0, 1) := by decide +kernel
theorem dX9_init_46 : decode cX9_init 46 = .ok (.ldc 23, 2) := by decide +kernel
theorem dX9_init_48 : decode cX9_init 48 = .ok (.newarray .long, 2) := by decide +kernel
theorem dX9_init_50 : decode cX9_init 50 = .ok (.putfield 28, 3) := by decide +kernel
theorem dX9_init_53 : decode cX9_init 53 = .ok (.aload_n 0, 1) := by decide +kernel
theorem dX9_init_54 : decode cX9_init 54 = .ok (.bipush 12, 2) := by decide +kernel
theorem dX9_init_56 : decode cX9_init 56 = .ok (.newarray .int, 2) := by decide +kernel
theorem dX9_init_58 : decode cX9_init 58 = .ok (.putfield 31, 3) := by decide +kernel
theorem dX9_init_61 : decode cX9_init 61 = .ok (.aload_n 0, 1) := by decide +kernel
theorem dX9_init_62 : decode cX9_init 62 = .ok (.iconst 4, 1) := by decide +kernel
theorem dX9_init_63 : decode cX9_init 63 = .ok (.newarray .int, 2) := by decide +kernel
theorem dX9_init_65 : decode cX9_init 65 = .ok (.putfield 34, 3) := by decide +kernel
theorem dX9_init_68 : decode cX9_init 68 = .ok (.aload_n 0, 1) := by decide +kernel
theorem dX9_init_69 : decode cX9_init 69 = .ok (.iconst 4, 1) := by decide +kernel
theorem dX9_init_70 : decode cX9_init 70 = .ok (.newarray .int, 2) := by decide +kernel
theorem dX9_init_72 : decode cX9_init 72 = .ok (.putfield 37, 3) := by decide +kernel
theorem dX9_init_75 : decode cX9_init 75 = .ok (.aload_n 0, 1) := by decide +kernel
theorem dX9_init_76 : decode cX9_init 76 = .ok (.sipush 160, 3) := by decide +kernel
theorem dX9_init_79 : decode cX9_init 79 = .ok (.newarray .int, 2) := by decide +kernel
theorem dX9_init_81 : decode cX9_init 81 = .ok (.putfield 40, 3) := by decide +kernel
theorem dX9_init_84 : decode cX9_init 84 = .ok (.iconst 0, 1) := by decide +kernel
theorem dX9_init_85 : decode cX9_init 85 = .ok (.istore_n 1, 1) := by decide +kernel
theorem dX9_init_86 : decode cX9_init 86 = .ok (.iload_n 1, 1) := by decide +kernel
theorem dX9_init_87 : decode cX9_init 87 = .ok (.iconst 4, 1) := by decide +kernel
theorem dX9_init_88 : decode cX9_init 88 = .ok (.if_icmp .ge 17, 3) := by decide +kernel
theorem dX9_init_91 : decode cX9_init 91 = .ok (.aload_n 0, 1) := by decide +kernel
theorem dX9_init_92 : decode cX9_init 92 = .ok (.getfield 34, 3) := by decide +kernel
theorem dX9_init_95 : decode cX9_init 95 = .ok (.iload_n 1, 1) := by decide +kernel
theorem dX9_init_96 : decode cX9_init 96 = .ok (.bipush (-4), 2) := by decide +kernel
theorem dX9_init_98 : decode cX9_init 98 = .ok (.iastore, 1) := by decide +kernel
theorem dX9_init_99 : decode cX9_init 99 = .ok (.iinc 1 1, 3) := by decide +kernel
theorem dX9_init_102 : decode cX9_init 102 = .ok (.goto (-16), 3) := by decide +kernel
theorem dX9_init_105 : decode cX9_init 105 = .ok (.aload_n 0, 1) := by decide +kernel
theorem dX9_init_106 : decode cX9_init 106 = .ok (.invokevirtual 43, 3) := by decide +kernel
theorem dX9_init_109 : decode cX9_init 109 = .ok (.aload_n 0, 1) := by decide +kernel
theorem dX9_init_110 : decode cX9_init 110 = .ok (.invokevirtual 46, 3) := by decide +kernel
theorem dX9_init_113 : decode cX9_init 113 = .ok (.return_, 1) := by decide +kernel
theorem dX9_in_0 : decode cX9_in 0 = .ok (.lload_n 0, 1) := by decide +kernel
theorem dX9_in_1 : decode cX9_in 1 = .ok (.lload_n 2, 1) := by decide +kernel
theorem dX9_in_2 : decode cX9_in 2 = .ok (.lcmp, 1) := by decide +kernel
theorem dX9_in_3 : decode cX9_in 3 = .ok (.ifCond .lt 14, 3) := by decide +kernel
theorem dX9_in_6 : decode cX9_in 6 = .ok (.lload_n 0, 1) := by decide +kernel
theorem dX9_in_7 : decode cX9_in 7 = .ok (.lload 4, 2) := by decide +kernel
theorem dX9_in_9 : decode cX9_in 9 = .ok (.lcmp, 1) := by decide +kernel
theorem dX9_in_10 : decode cX9_in 10 = .ok (.ifCond .gt 7, 3) := by decide +kernel
theorem dX9_in_13 : decode cX9_in 13 = .ok (.iconst 1, 1) := by decide +kernel
theorem dX9_in_14 : decode cX9_in 14 = .ok (.goto 4, 3) := by decide +kernel
theorem dX9_in_17 : decode cX9_in 17 = .ok (.iconst 0, 1) := by decide +kernel
theorem dX9_in_18 : decode cX9_in 18 = .ok (.ireturn, 1) := by decide +kernel
theorem dX9_flag_0 : decode cX9_flag 0 = .ok (.iload_n 0, 1) := by decide +kernel
theorem dX9_flag_1 : decode cX9_flag 1 = .ok (.ifCond .eq 7, 3) := by decide +kernel
theorem dX9_flag_4 : decode cX9_flag 4 = .ok (.iconst 1, 1) := by decide +kernel
theorem dX9_flag_5 : decode cX9_flag 5 = .ok (.goto 4, 3) := by decide +kernel
theorem dX9_flag_8 : decode cX9_flag 8 = .ok (.iconst 0, 1) := by decide +kernel
theorem dX9_flag_9 : decode cX9_flag 9 = .ok (.ireturn, 1) := by decide +kernel
theorem dX9_firstDraft_0 : decode cX9_firstDraft 0 = .ok (.iconst 0, 1) := by decide +kernel
theorem dX9_firstDraft_1 : decode cX9_firstDraft 1 = .ok (.istore_n 1, 1) := by decide +kernel
theorem dX9_firstDraft_2 : decode cX9_firstDraft 2 = .ok (.iload_n 1, 1) := by decide +kernel
theorem dX9_firstDraft_3 : decode cX9_firstDraft 3 = .ok (.bipush 108, 2) := by decide +kernel
theorem dX9_firstDraft_5 : decode cX9_firstDraft 5 = .ok (.if_icmp .ge 16, 3) := by decide +kernel
theorem dX9_firstDraft_8 : decode cX9_firstDraft 8 = .ok (.aload_n 0, 1) := by decide +kernel
theorem dX9_firstDraft_9 : decode cX9_firstDraft 9 = .ok (.getfield 17, 3) := by decide +kernel
theorem dX9_firstDraft_12 : decode cX9_firstDraft 12 = .ok (.iload_n 1, 1) := by decide +kernel
theorem dX9_firstDraft_13 : decode cX9_firstDraft 13 = .ok (.iconst 0, 1) := by decide +kernel
theorem dX9_firstDraft_14 : decode cX9_firstDraft 14 = .ok (.iastore, 1) := by decide +kernel
theorem dX9_firstDraft_15 : decode cX9_firstDraft 15 = .ok (.iinc 1 1, 3) := by decide +kernel
theorem dX9_firstDraft_18 : decode cX9_firstDraft 18 = .ok (.goto (-16), 3) := by decide +kernel
theorem dX9_firstDraft_21 : decode cX9_firstDraft 21 = .ok (.aload_n 0, 1) := by decide +kernel
theorem dX9_firstDraft_22 : decode cX9_firstDraft 22 = .ok (.getfield 17, 3) := by decide +kernel
theorem dX9_firstDraft_25 : decode cX9_firstDraft 25 = .ok (.bipush 68, 2) := by decide +kernel
theorem dX9_firstDraft_27 : decode cX9_firstDraft 27 = .ok (.bipush (-4), 2) := by decide +kernel
theorem dX9_firstDraft_29 : decode cX9_firstDraft 29 = .ok (.iastore, 1) := by decide +kernel
theorem dX9_firstDraft_30 : decode cX9_firstDraft 30 = .ok (.aload_n 0, 1) := by decide +kernel
theorem dX9_firstDraft_31 : decode cX9_firstDraft 31 = .ok (.getfield 17, 3) := by decide +kernel
theorem dX9_firstDraft_34 : decode cX9_firstDraft 34 = .ok (.bipush 69, 2) := by decide +kernel
theorem dX9_firstDraft_36 : decode cX9_firstDraft 36 = .ok (.bipush (-4), 2) := by decide +kernel
theorem dX9_firstDraft_38 : decode cX9_firstDraft 38 = .ok (.iastore, 1) := by decide +kernel
theorem dX9_firstDraft_39 : decode cX9_firstDraft 39 = .ok (.aload_n 0, 1) := by decide +kernel
theorem dX9_firstDraft_40 : decode cX9_firstDraft 40 = .ok (.getfield 17, 3) := by decide +kernel
theorem dX9_firstDraft_43 : decode cX9_firstDraft 43 = .ok (.bipush 70, 2) := by decide +kernel
theorem dX9_firstDraft_45 : decode cX9_firstDraft 45 = .ok (.bipush (-4), 2) := by decide +kernel
theorem dX9_firstDraft_47 : decode cX9_firstDraft 47 = .ok (.iastore, 1) := by decide +kernel
theorem dX9_firstDraft_48 : decode cX9_firstDraft 48 = .ok (.aload_n 0, 1) := by decide +kernel
theorem dX9_firstDraft_49 : decode cX9_firstDraft 49 = .ok (.iconst 1, 1) := by decide +kernel
theorem dX9_firstDraft_50 : decode cX9_firstDraft 50 = .ok (.putfield 49, 3) := by decide +kernel
theorem dX9_firstDraft_53 : decode cX9_firstDraft 53 = .ok (.aload_n 0, 1) := by decide +kernel
theorem dX9_firstDraft_54 : decode cX9_firstDraft 54 = .ok (.iconst 0, 1) := by decide +kernel
theorem dX9_firstDraft_55 : decode cX9_firstDraft 55 = .ok (.putfield 53, 3) := by decide +kernel
theorem dX9_firstDraft_58 : decode cX9_firstDraft 58 = .ok (.aload_n 0, 1) := by decide +kernel
theorem dX9_firstDraft_59 : decode cX9_firstDraft 59 = .ok (.iconst 0, 1) := by decide +kernel
theorem dX9_firstDraft_60 : decode cX9_firstDraft 60 = .ok (.putfield 57, 3) := by decide +kernel
theorem dX9_firstDraft_63 : decode cX9_firstDraft 63 = .ok (.aload_n 0, 1) := by decide +kernel
theorem dX9_firstDraft_64 : decode cX9_firstDraft 64 = .ok (.bipush (-4), 2) := by decide +kernel
theorem dX9_firstDraft_66 : decode cX9_firstDraft 66 = .ok (.putfield 60, 3) := by decide +kernel
theorem dX9_firstDraft_69 : decode cX9_firstDraft 69 = .ok (.return_, 1) := by decide +kernel
theorem dX9_keepDraft_0 : decode cX9_keepDraft 0 = .ok (.iconst 0, 1) := by decide +kernel
theorem dX9_keepDraft_1 : decode cX9_keepDraft 1 = .ok (.istore_n 1, 1) := by decide +kernel
theorem dX9_keepDraft_2 : decode cX9_keepDraft 2 = .ok (.iload_n 1, 1) := by decide +kernel
theorem dX9_keepDraft_3 : decode cX9_keepDraft 3 = .ok (.bipush 108, 2) := by decide +kernel
theorem dX9_keepDraft_5 : decode cX9_keepDraft 5 = .ok (.if_icmp .ge 21, 3) := by decide +kernel
theorem dX9_keepDraft_8 : decode cX9_keepDraft 8 = .ok (.aload_n 0, 1) := by decide +kernel
theorem dX9_keepDraft_9 : decode cX9_keepDraft 9 = .ok (.getfield 7, 3) := by decide +kernel
theorem dX9_keepDraft_12 : decode cX9_keepDraft 12 = .ok (.iload_n 1, 1) := by decide +kernel
theorem dX9_keepDraft_13 : decode cX9_keepDraft 13 = .ok (.aload_n 0, 1) := by decide +kernel
theorem dX9_keepDraft_14 : decode cX9_keepDraft 14 = .ok (.getfield 17, 3) := by decide +kernel
theorem dX9_keepDraft_17 : decode cX9_keepDraft 17 = .ok (.iload_n 1, 1) := by decide +kernel
theorem dX9_keepDraft_18 : decode cX9_keepDraft 18 = .ok (.iaload, 1) := by decide +kernel
theorem dX9_keepDraft_19 : decode cX9_keepDraft 19 = .ok (.iastore, 1) := by decide +kernel
theorem dX9_keepDraft_20 : decode cX9_keepDraft 20 = .ok (.iinc 1 1, 3) := by decide +kernel
theorem dX9_keepDraft_23 : decode cX9_keepDraft 23 = .ok (.goto (-21), 3) := by decide +kernel
theorem dX9_keepDraft_26 : decode cX9_keepDraft 26 = .ok (.aload_n 0, 1) := by decide +kernel
theorem dX9_keepDraft_27 : decode cX9_keepDraft 27 = .ok (.aload_n 0, 1) := by decide +kernel
theorem dX9_keepDraft_28 : decode cX9_keepDraft 28 = .ok (.getfield 49, 3) := by decide +kernel
theorem dX9_keepDraft_31 : decode cX9_keepDraft 31 = .ok (.putfield 63, 3) := by decide +kernel
theorem dX9_keepDraft_34 : decode cX9_keepDraft 34 = .ok (.aload_n 0, 1) := by decide +kernel
theorem dX9_keepDraft_35 : decode cX9_keepDraft 35 = .ok (.getfield 13, 3) := by decide +kernel
theorem dX9_keepDraft_38 : decode cX9_keepDraft 38 = .ok (.iconst 0, 1) := by decide +kernel
theorem dX9_keepDraft_39 : decode cX9_keepDraft 39 = .ok (.iconst 0, 1) := by decide +kernel
theorem dX9_keepDraft_40 : decode cX9_keepDraft 40 = .ok (.bastore, 1) := by decide +kernel
theorem dX9_keepDraft_41 : decode cX9_keepDraft 41 = .ok (.aload_n 0, 1) := by decide +kernel
theorem dX9_keepDraft_42 : decode cX9_keepDraft 42 = .ok (.getfield 13, 3) := by decide +kernel
theorem dX9_keepDraft_45 : decode cX9_keepDraft 45 = .ok (.iconst 1, 1) := by decide +kernel
theorem dX9_keepDraft_46 : decode cX9_keepDraft 46 = .ok (.iconst 0, 1) := by decide +kernel
theorem dX9_keepDraft_47 : decode cX9_keepDraft 47 = .ok (.bastore, 1) := by decide +kernel
theorem dX9_keepDraft_48 : decode cX9_keepDraft 48 = .ok (.return_, 1) := by decide +kernel
theorem dX9_feed_0 : decode cX9_feed 0 = .ok (.aload_n 0, 1) := by decide +kernel
theorem dX9_feed_1 : decode cX9_feed 1 = .ok (.getfield 66, 3) := by decide +kernel
theorem dX9_feed_4 : decode cX9_feed 4 = .ok (.bipush 8, 2) := by decide +kernel
theorem dX9_feed_6 : decode cX9_feed 6 = .ok (.iadd, 1) := by decide +kernel
theorem dX9_feed_7 : decode cX9_feed 7 = .ok (.sipush 400, 3) := by decide +kernel
theorem dX9_feed_10 : decode cX9_feed 10 = .ok (.if_icmp .le 6, 3) := by decide +kernel
theorem dX9_feed_13 : decode cX9_feed 13 = .ok (.bipush (-3), 2) := by decide +kernel
theorem dX9_feed_15 : decode cX9_feed 15 = .ok (.ireturn, 1) := by decide +kernel
theorem dX9_feed_16 : decode cX9_feed 16 = .ok (.bipush 56, 2) := by decide +kernel
theorem dX9_feed_18 : decode cX9_feed 18 = .ok (.istore_n 3, 1) := by decide +kernel
theorem dX9_feed_19 : decode cX9_feed 19 = .ok (.iload_n 3, 1) := by decide +kernel
theorem dX9_feed_20 : decode cX9_feed 20 = .ok (.ifCond .lt 36, 3) := by decide +kernel
theorem dX9_feed_23 : decode cX9_feed 23 = .ok (.aload_n 0, 1) := by decide +kernel
theorem dX9_feed_24 : decode cX9_feed 24 = .ok (.getfield 20, 3) := by decide +kernel
theorem dX9_feed_27 : decode cX9_feed 27 = .ok (.aload_n 0, 1) := by decide +kernel
theorem dX9_feed_28 : decode cX9_feed 28 = .ok (.getfield 66, 3) := by decide +kernel
theorem dX9_feed_31 : decode cX9_feed 31 = .ok (.lload_n 1, 1) := by decide +kernel
theorem dX9_feed_32 : decode cX9_feed 32 = .ok (.iload_n 3, 1) := by decide +kernel
theorem dX9_feed_33 : decode cX9_feed 33 = .ok (.lshr, 1) := by decide +kernel
theorem dX9_feed_34 : decode cX9_feed 34 = .ok (.ldc2_w 69, 3) := by decide +kernel
theorem dX9_feed_37 : decode cX9_feed 37 = .ok (.land, 1) := by decide +kernel
theorem dX9_feed_38 : decode cX9_feed 38 = .ok (.l2i, 1) := by decide +kernel
theorem dX9_feed_39 : decode cX9_feed 39 = .ok (.iastore, 1) := by decide +kernel
theorem dX9_feed_40 : decode cX9_feed 40 = .ok (.aload_n 0, 1) := by decide +kernel
theorem dX9_feed_41 : decode cX9_feed 41 = .ok (.dup, 1) := by decide +kernel
theorem dX9_feed_42 : decode cX9_feed 42 = .ok (.getfield 66, 3) := by decide +kernel
theorem dX9_feed_45 : decode cX9_feed 45 = .ok (.iconst 1, 1) := by decide +kernel
theorem dX9_feed_46 : decode cX9_feed 46 = .ok (.iadd, 1) := by decide +kernel
theorem dX9_feed_47 : decode cX9_feed 47 = .ok (.putfield 66, 3) := by decide +kernel
theorem dX9_feed_50 : decode cX9_feed 50 = .ok (.iinc 3 (-8), 3) := by decide +kernel
theorem dX9_feed_53 : decode cX9_feed 53 = .ok (.goto (-34), 3) := by decide +kernel
theorem dX9_feed_56 : decode cX9_feed 56 = .ok (.aload_n 0, 1) := by decide +kernel
theorem dX9_feed_57 : decode cX9_feed 57 = .ok (.getfield 66, 3) := by decide +kernel
theorem dX9_feed_60 : decode cX9_feed 60 = .ok (.ireturn, 1) := by decide +kernel
theorem dX9_end_0 : decode cX9_end 0 = .ok (.iload_n 1, 1) := by decide +kernel
theorem dX9_end_1 : decode cX9_end 1 = .ok (.i2l, 1) := by decide +kernel
theorem dX9_end_2 : decode cX9_end 2 = .ok (.lconst 0, 1) := by decide +kernel
theorem dX9_end_3 : decode cX9_end 3 = .ok (.aload_n 0, 1) := by decide +kernel
theorem dX9_end_4 : decode cX9_end 4 = .ok (.getfield 66, 3) := by decide +kernel
theorem dX9_end_7 : decode cX9_end 7 = .ok (.i2l, 1) := by decide +kernel
theorem dX9_end_8 : decode cX9_end 8 = .ok (.invokestatic 71, 3) := by decide +kernel
theorem dX9_end_11 : decode cX9_end 11 = .ok (.ifCond .ne 5, 3) := by decide +kernel
theorem dX9_end_14 : decode cX9_end 14 = .ok (.iconst (-1), 1) := by decide +kernel
theorem dX9_end_15 : decode cX9_end 15 = .ok (.ireturn, 1) := by decide +kernel
theorem dX9_end_16 : decode cX9_end 16 = .ok (.aload_n 0, 1) := by decide +kernel
theorem dX9_end_17 : decode cX9_end 17 = .ok (.getfield 66, 3) := by decide +kernel
theorem dX9_end_20 : decode cX9_end 20 = .ok (.istore_n 2, 1) := by decide +kernel
theorem dX9_end_21 : decode cX9_end 21 = .ok (.aload_n 0, 1) := by decide +kernel
theorem dX9_end_22 : decode cX9_end 22 = .ok (.iload_n 1, 1) := by decide +kernel
theorem dX9_end_23 : decode cX9_end 23 = .ok (.putfield 66, 3) := by decide +kernel
theorem dX9_end_26 : decode cX9_end 26 = .ok (.iload_n 2, 1) := by decide +kernel
theorem dX9_end_27 : decode cX9_end 27 = .ok (.ireturn, 1) := by decide +kernel
theorem dX9_needs_0 : decode cX9_needs 0 = .ok (.iload_n 1, 1) := by decide +kernel
theorem dX9_needs_1 : decode cX9_needs 1 = .ok (.ifCond .ne 23, 3) := by decide +kernel
theorem dX9_needs_4 : decode cX9_needs 4 = .ok (.aload_n 0, 1) := by decide +kernel
theorem dX9_needs_5 : decode cX9_needs 5 = .ok (.getfield 75, 3) := by decide +kernel
theorem dX9_needs_8 : decode cX9_needs 8 = .ok (.ifCond .ne 16, 3) := by decide +kernel
theorem dX9_needs_11 : decode cX9_needs 11 = .ok (.aload_n 0, 1) := by decide +kernel
theorem dX9_needs_12 : decode cX9_needs 12 = .ok (.iload_n 2, 1) := by decide +kernel
theorem dX9_needs_13 : decode cX9_needs 13 = .ok (.putfield 75, 3) := by decide +kernel
theorem dX9_needs_16 : decode cX9_needs 16 = .ok (.aload_n 0, 1) := by decide +kernel
theorem dX9_needs_17 : decode cX9_needs 17 = .ok (.aload_n 0, 1) := by decide +kernel
theorem dX9_needs_18 : decode cX9_needs 18 = .ok (.getfield 78, 3) := by decide +kernel
theorem dX9_needs_21 : decode cX9_needs 21 = .ok (.putfield 81, 3) := by decide +kernel
theorem dX9_needs_24 : decode cX9_needs 24 = .ok (.return_, 1) := by decide +kernel
theorem dX9_look_0 : decode cX9_look 0 = .ok (.iload_n 1, 1) := by decide +kernel
theorem dX9_look_1 : decode cX9_look 1 = .ok (.aload_n 0, 1) := by decide +kernel
theorem dX9_look_2 : decode cX9_look 2 = .ok (.getfield 66, 3) := by decide +kernel
theorem dX9_look_5 : decode cX9_look 5 = .ok (.if_icmp .ge 12, 3) := by decide +kernel
theorem dX9_look_8 : decode cX9_look 8 = .ok (.aload_n 0, 1) := by decide +kernel
theorem dX9_look_9 : decode cX9_look 9 = .ok (.getfield 20, 3) := by decide +kernel
theorem dX9_look_12 : decode cX9_look 12 = .ok (.iload_n 1, 1) := by decide +kernel
theorem dX9_look_13 : decode cX9_look 13 = .ok (.iaload, 1) := by decide +kernel
theorem dX9_look_14 : decode cX9_look 14 = .ok (.goto 4, 3) := by decide +kernel
theorem dX9_look_17 : decode cX9_look 17 = .ok (.iconst (-1), 1) := by decide +kernel
theorem dX9_look_18 : decode cX9_look 18 = .ok (.ireturn, 1) := by decide +kernel
theorem dX9_is_0 : decode cX9_is 0 = .ok (.aload_n 0, 1) := by decide +kernel
theorem dX9_is_1 : decode cX9_is 1 = .ok (.getfield 84, 3) := by decide +kernel
theorem dX9_is_4 : decode cX9_is 4 = .ok (.aload_n 0, 1) := by decide +kernel
theorem dX9_is_5 : decode cX9_is 5 = .ok (.getfield 78, 3) := by decide +kernel
theorem dX9_is_8 : decode cX9_is 8 = .ok (.isub, 1) := by decide +kernel
theorem dX9_is_9 : decode cX9_is 9 = .ok (.iload_n 1, 1) := by decide +kernel
theorem dX9_is_10 : decode cX9_is 10 = .ok (.if_icmp .ne 63, 3) := by decide +kernel
theorem dX9_is_13 : decode cX9_is 13 = .ok (.aload_n 0, 1) := by decide +kernel
theorem dX9_is_14 : decode cX9_is 14 = .ok (.aload_n 0, 1) := by decide +kernel
theorem dX9_is_15 : decode cX9_is 15 = .ok (.getfield 78, 3) := by decide +kernel
theorem dX9_is_18 : decode cX9_is 18 = .ok (.invokevirtual 87, 3) := by decide +kernel
theorem dX9_is_21 : decode cX9_is 21 = .ok (.iload_n 2, 1) := by decide +kernel
theorem dX9_is_22 : decode cX9_is 22 = .ok (.if_icmp .ne 51, 3) := by decide +kernel
theorem dX9_is_25 : decode cX9_is 25 = .ok (.aload_n 0, 1) := by decide +kernel
theorem dX9_is_26 : decode cX9_is 26 = .ok (.aload_n 0, 1) := by decide +kernel
theorem dX9_is_27 : decode cX9_is 27 = .ok (.getfield 78, 3) := by decide +kernel
theorem dX9_is_30 : decode cX9_is 30 = .ok (.iconst 1, 1) := by decide +kernel
theorem dX9_is_31 : decode cX9_is 31 = .ok (.iadd, 1) := by decide +kernel
theorem dX9_is_32 : decode cX9_is 32 = .ok (.invokevirtual 87, 3) := by decide +kernel
theorem dX9_is_35 : decode cX9_is 35 = .ok (.iload_n 3, 1) := by decide +kernel
theorem dX9_is_36 : decode cX9_is 36 = .ok (.if_icmp .ne 37, 3) := by decide +kernel
theorem dX9_is_39 : decode cX9_is 39 = .ok (.aload_n 0, 1) := by decide +kernel
theorem dX9_is_40 : decode cX9_is 40 = .ok (.aload_n 0, 1) := by decide +kernel
theorem dX9_is_41 : decode cX9_is 41 = .ok (.getfield 78, 3) := by decide +kernel
theorem dX9_is_44 : decode cX9_is 44 = .ok (.iconst 2, 1) := by decide +kernel
theorem dX9_is_45 : decode cX9_is 45 = .ok (.iadd, 1) := by decide +kernel
theorem dX9_is_46 : decode cX9_is 46 = .ok (.invokevirtual 87, 3) := by decide +kernel
theorem dX9_is_49 : decode cX9_is 49 = .ok (.iload 4, 2) := by decide +kernel
theorem dX9_is_51 : decode cX9_is 51 = .ok (.if_icmp .ne 22, 3) := by decide +kernel
theorem dX9_is_54 : decode cX9_is 54 = .ok (.aload_n 0, 1) := by decide +kernel
theorem dX9_is_55 : decode cX9_is 55 = .ok (.aload_n 0, 1) := by decide +kernel
theorem dX9_is_56 : decode cX9_is 56 = .ok (.getfield 78, 3) := by decide +kernel
theorem dX9_is_59 : decode cX9_is 59 = .ok (.iconst 3, 1) := by decide +kernel
theorem dX9_is_60 : decode cX9_is 60 = .ok (.iadd, 1) := by decide +kernel
theorem dX9_is_61 : decode cX9_is 61 = .ok (.invokevirtual 87, 3) := by decide +kernel
theorem dX9_is_64 : decode cX9_is 64 = .ok (.iload 5, 2) := by decide +kernel
theorem dX9_is_66 : decode cX9_is 66 = .ok (.if_icmp .ne 7, 3) := by decide +kernel
theorem dX9_is_69 : decode cX9_is 69 = .ok (.iconst 1, 1) := by decide +kernel
theorem dX9_is_70 : decode cX9_is 70 = .ok (.goto 4, 3) := by decide +kernel
theorem dX9_is_73 : decode cX9_is 73 = .ok (.iconst 0, 1) := by decide +kernel
theorem dX9_is_74 : decode cX9_is 74 = .ok (.ireturn, 1) := by decide +kernel
theorem dX9_ends_0 : decode cX9_ends 0 = .ok (.aload_n 0, 1) := by decide +kernel
theorem dX9_ends_1 : decode cX9_ends 1 = .ok (.aload_n 0, 1) := by decide +kernel
theorem dX9_ends_2 : decode cX9_ends 2 = .ok (.getfield 78, 3) := by decide +kernel
theorem dX9_ends_5 : decode cX9_ends 5 = .ok (.iconst 4, 1) := by decide +kernel
theorem dX9_ends_6 : decode cX9_ends 6 = .ok (.iadd, 1) := by decide +kernel
theorem dX9_ends_7 : decode cX9_ends 7 = .ok (.invokevirtual 87, 3) := by decide +kernel
theorem dX9_ends_10 : decode cX9_ends 10 = .ok (.iload_n 1, 1) := by decide +kernel
theorem dX9_ends_11 : decode cX9_ends 11 = .ok (.if_icmp .ne 44, 3) := by decide +kernel
theorem dX9_ends_14 : decode cX9_ends 14 = .ok (.iload_n 2, 1) := by decide +kernel
theorem dX9_ends_15 : decode cX9_ends 15 = .ok (.ifCond .eq 17, 3) := by decide +kernel
theorem dX9_ends_18 : decode cX9_ends 18 = .ok (.aload_n 0, 1) := by decide +kernel
theorem dX9_ends_19 : decode cX9_ends 19 = .ok (.aload_n 0, 1) := by decide +kernel
theorem dX9_ends_20 : decode cX9_ends 20 = .ok (.getfield 78, 3) := by decide +kernel
theorem dX9_ends_23 : decode cX9_ends 23 = .ok (.iconst 5, 1) := by decide +kernel
theorem dX9_ends_24 : decode cX9_ends 24 = .ok (.iadd, 1) := by decide +kernel
theorem dX9_ends_25 : decode cX9_ends 25 = .ok (.invokevirtual 87, 3) := by decide +kernel
theorem dX9_ends_28 : decode cX9_ends 28 = .ok (.iload_n 2, 1) := by decide +kernel
theorem dX9_ends_29 : decode cX9_ends 29 = .ok (.if_icmp .ne 26, 3) := by decide +kernel
theorem dX9_ends_32 : decode cX9_ends 32 = .ok (.iload_n 3, 1) := by decide +kernel
theorem dX9_ends_33 : decode cX9_ends 33 = .ok (.ifCond .eq 18, 3) := by decide +kernel
theorem dX9_ends_36 : decode cX9_ends 36 = .ok (.aload_n 0, 1) := by decide +kernel
theorem dX9_ends_37 : decode cX9_ends 37 = .ok (.aload_n 0, 1) := by decide +kernel
theorem dX9_ends_38 : decode cX9_ends 38 = .ok (.getfield 78, 3) := by decide +kernel
theorem dX9_ends_41 : decode cX9_ends 41 = .ok (.bipush 6, 2) := by decide +kernel
theorem dX9_ends_43 : decode cX9_ends 43 = .ok (.iadd, 1) := by decide +kernel
theorem dX9_ends_44 : decode cX9_ends 44 = .ok (.invokevirtual 87, 3) := by decide +kernel
theorem dX9_ends_47 : decode cX9_ends 47 = .ok (.iload_n 3, 1) := by decide +kernel
theorem dX9_ends_48 : decode cX9_ends 48 = .ok (.if_icmp .ne 7, 3) := by decide +kernel
theorem dX9_ends_51 : decode cX9_ends 51 = .ok (.iconst 1, 1) := by decide +kernel
theorem dX9_ends_52 : decode cX9_ends 52 = .ok (.goto 4, 3) := by decide +kernel
theorem dX9_ends_55 : decode cX9_ends 55 = .ok (.iconst 0, 1) := by decide +kernel
theorem dX9_ends_56 : decode cX9_ends 56 = .ok (.ireturn, 1) := by decide +kernel
theorem dX9_lineNow_0 : decode cX9_lineNow 0 = .ok (.aload_n 0, 1) := by decide +kernel
theorem dX9_lineNow_1 : decode cX9_lineNow 1 = .ok (.bipush 6, 2) := by decide +kernel
theorem dX9_lineNow_3 : decode cX9_lineNow 3 = .ok (.bipush 102, 2) := by decide +kernel
theorem dX9_lineNow_5 : decode cX9_lineNow 5 = .ok (.bipush 105, 2) := by decide +kernel
theorem dX9_lineNow_7 : decode cX9_lineNow 7 = .ok (.bipush 103, 2) := by decide +kernel
theorem dX9_lineNow_9 : decode cX9_lineNow 9 = .ok (.bipush 117, 2) := by decide +kernel
theorem dX9_lineNow_11 : decode cX9_lineNow 11 = .ok (.invokevirtual 91, 3) := by decide +kernel
theorem dX9_lineNow_14 : decode cX9_lineNow 14 = .ok (.ifCond .eq 17, 3) := by decide +kernel
theorem dX9_lineNow_17 : decode cX9_lineNow 17 = .ok (.aload_n 0, 1) := by decide +kernel
theorem dX9_lineNow_18 : decode cX9_lineNow 18 = .ok (.bipush 114, 2) := by decide +kernel
theorem dX9_lineNow_20 : decode cX9_lineNow 20 = .ok (.bipush 101, 2) := by decide +kernel
theorem dX9_lineNow_22 : decode cX9_lineNow 22 = .ok (.iconst 0, 1) := by decide +kernel
theorem dX9_lineNow_23 : decode cX9_lineNow 23 = .ok (.invokevirtual 95, 3) := by decide +kernel
theorem dX9_lineNow_26 : decode cX9_lineNow 26 = .ok (.ifCond .eq 5, 3) := by decide +kernel
theorem dX9_lineNow_29 : decode cX9_lineNow 29 = .ok (.iconst 0, 1) := by decide +kernel
theorem dX9_lineNow_30 : decode cX9_lineNow 30 = .ok (.ireturn, 1) := by decide +kernel
theorem dX9_lineNow_31 : decode cX9_lineNow 31 = .ok (.aload_n 0, 1) := by decide +kernel
theorem dX9_lineNow_32 : decode cX9_lineNow 32 = .ok (.iconst 5, 1) := by decide +kernel
theorem dX9_lineNow_33 : decode cX9_lineNow 33 = .ok (.bipush 115, 2) := by decide +kernel
theorem dX9_lineNow_35 : decode cX9_lineNow 35 = .ok (.bipush 116, 2) := by decide +kernel
theorem dX9_lineNow_37 : decode cX9_lineNow 37 = .ok (.bipush 105, 2) := by decide +kernel
theorem dX9_lineNow_39 : decode cX9_lineNow 39 = .ok (.bipush 99, 2) := by decide +kernel
theorem dX9_lineNow_41 : decode cX9_lineNow 41 = .ok (.invokevirtual 91, 3) := by decide +kernel
theorem dX9_lineNow_44 : decode cX9_lineNow 44 = .ok (.ifCond .eq 16, 3) := by decide +kernel
theorem dX9_lineNow_47 : decode cX9_lineNow 47 = .ok (.aload_n 0, 1) := by decide +kernel
theorem dX9_lineNow_48 : decode cX9_lineNow 48 = .ok (.bipush 107, 2) := by decide +kernel
theorem dX9_lineNow_50 : decode cX9_lineNow 50 = .ok (.iconst 0, 1) := by decide +kernel
theorem dX9_lineNow_51 : decode cX9_lineNow 51 = .ok (.iconst 0, 1) := by decide +kernel
theorem dX9_lineNow_52 : decode cX9_lineNow 52 = .ok (.invokevirtual 95, 3) := by decide +kernel
theorem dX9_lineNow_55 : decode cX9_lineNow 55 = .ok (.ifCond .eq 5, 3) := by decide +kernel
theorem dX9_lineNow_58 : decode cX9_lineNow 58 = .ok (.iconst 1, 1) := by decide +kernel
theorem dX9_lineNow_59 : decode cX9_lineNow 59 = .ok (.ireturn, 1) := by decide +kernel
theorem dX9_lineNow_60 : decode cX9_lineNow 60 = .ok (.aload_n 0, 1) := by decide +kernel
theorem dX9_lineNow_61 : decode cX9_lineNow 61 = .ok (.iconst 5, 1) := by decide +kernel
theorem dX9_lineNow_62 : decode cX9_lineNow 62 = .ok (.bipush 114, 2) := by decide +kernel
theorem dX9_lineNow_64 : decode cX9_lineNow 64 = .ok (.bipush 101, 2) := by decide +kernel
theorem dX9_lineNow_66 : decode cX9_lineNow 66 = .ok (.bipush 97, 2) := by decide +kernel
theorem dX9_lineNow_68 : decode cX9_lineNow 68 = .ok (.bipush 99, 2) := by decide +kernel
theorem dX9_lineNow_70 : decode cX9_lineNow 70 = .ok (.invokevirtual 91, 3) := by decide +kernel
theorem dX9_lineNow_73 : decode cX9_lineNow 73 = .ok (.ifCond .eq 16, 3) := by decide +kernel
theorem dX9_lineNow_76 : decode cX9_lineNow 76 = .ok (.aload_n 0, 1) := by decide +kernel
theorem dX9_lineNow_77 : decode cX9_lineNow 77 = .ok (.bipush 104, 2) := by decide +kernel
theorem dX9_lineNow_79 : decode cX9_lineNow 79 = .ok (.iconst 0, 1) := by decide +kernel
theorem dX9_lineNow_80 : decode cX9_lineNow 80 = .ok (.iconst 0, 1) := by decide +kernel
theorem dX9_lineNow_81 : decode cX9_lineNow 81 = .ok (.invokevirtual 95, 3) := by decide +kernel
theorem dX9_lineNow_84 : decode cX9_lineNow 84 = .ok (.ifCond .eq 5, 3) := by decide +kernel
theorem dX9_lineNow_87 : decode cX9_lineNow 87 = .ok (.iconst 2, 1) := by decide +kernel
theorem dX9_lineNow_88 : decode cX9_lineNow 88 = .ok (.ireturn, 1) := by decide +kernel
theorem dX9_lineNow_89 : decode cX9_lineNow 89 = .ok (.aload_n 0, 1) := by decide +kernel
theorem dX9_lineNow_90 : decode cX9_lineNow 90 = .ok (.iconst 4, 1) := by decide +kernel
theorem dX9_lineNow_91 : decode cX9_lineNow 91 = .ok (.bipush 118, 2) := by decide +kernel
theorem dX9_lineNow_93 : decode cX9_lineNow 93 = .ok (.bipush 111, 2) := by decide +kernel
theorem dX9_lineNow_95 : decode cX9_lineNow 95 = .ok (.bipush 116, 2) := by decide +kernel
theorem dX9_lineNow_97 : decode cX9_lineNow 97 = .ok (.bipush 101, 2) := by decide +kernel
theorem dX9_lineNow_99 : decode cX9_lineNow 99 = .ok (.invokevirtual 91, 3) := by decide +kernel
theorem dX9_lineNow_102 : decode cX9_lineNow 102 = .ok (.ifCond .eq 7, 3) := by decide +kernel
theorem dX9_lineNow_105 : decode cX9_lineNow 105 = .ok (.iconst 3, 1) := by decide +kernel
theorem dX9_lineNow_106 : decode cX9_lineNow 106 = .ok (.goto 5, 3) := by decide +kernel
theorem dX9_lineNow_109 : decode cX9_lineNow 109 = .ok (.bipush (-4), 2) := by decide +kernel
theorem dX9_lineNow_111 : decode cX9_lineNow 111 = .ok (.ireturn, 1) := by decide +kernel
theorem dX9_kindNow_0 : decode cX9_kindNow 0 = .ok (.aload_n 0, 1) := by decide +kernel
theorem dX9_kindNow_1 : decode cX9_kindNow 1 = .ok (.iconst 5, 1) := by decide +kernel
theorem dX9_kindNow_2 : decode cX9_kindNow 2 = .ok (.bipush 112, 2) := by decide +kernel
theorem dX9_kindNow_4 : decode cX9_kindNow 4 = .ok (.bipush 108, 2) := by decide +kernel
theorem dX9_kindNow_6 : decode cX9_kindNow 6 = .ok (.bipush 97, 2) := by decide +kernel
theorem dX9_kindNow_8 : decode cX9_kindNow 8 = .ok (.bipush 105, 2) := by decide +kernel
theorem dX9_kindNow_10 : decode cX9_kindNow 10 = .ok (.invokevirtual 91, 3) := by decide +kernel
theorem dX9_kindNow_13 : decode cX9_kindNow 13 = .ok (.ifCond .eq 16, 3) := by decide +kernel
theorem dX9_kindNow_16 : decode cX9_kindNow 16 = .ok (.aload_n 0, 1) := by decide +kernel
theorem dX9_kindNow_17 : decode cX9_kindNow 17 = .ok (.bipush 110, 2) := by decide +kernel
theorem dX9_kindNow_19 : decode cX9_kindNow 19 = .ok (.iconst 0, 1) := by decide +kernel
theorem dX9_kindNow_20 : decode cX9_kindNow 20 = .ok (.iconst 0, 1) := by decide +kernel
theorem dX9_kindNow_21 : decode cX9_kindNow 21 = .ok (.invokevirtual 95, 3) := by decide +kernel
theorem dX9_kindNow_24 : decode cX9_kindNow 24 = .ok (.ifCond .eq 5, 3) := by decide +kernel
theorem dX9_kindNow_27 : decode cX9_kindNow 27 = .ok (.iconst 0, 1) := by decide +kernel
theorem dX9_kindNow_28 : decode cX9_kindNow 28 = .ok (.ireturn, 1) := by decide +kernel
theorem dX9_kindNow_29 : decode cX9_kindNow 29 = .ok (.aload_n 0, 1) := by decide +kernel
theorem dX9_kindNow_30 : decode cX9_kindNow 30 = .ok (.iconst 4, 1) := by decide +kernel
theorem dX9_kindNow_31 : decode cX9_kindNow 31 = .ok (.bipush 119, 2) := by decide +kernel
theorem dX9_kindNow_33 : decode cX9_kindNow 33 = .ok (.bipush 111, 2) := by decide +kernel
theorem dX9_kindNow_35 : decode cX9_kindNow 35 = .ok (.bipush 114, 2) := by decide +kernel
theorem dX9_kindNow_37 : decode cX9_kindNow 37 = .ok (.bipush 110, 2) := by decide +kernel
theorem dX9_kindNow_39 : decode cX9_kindNow 39 = .ok (.invokevirtual 91, 3) := by decide +kernel
theorem dX9_kindNow_42 : decode cX9_kindNow 42 = .ok (.ifCond .eq 5, 3) := by decide +kernel
theorem dX9_kindNow_45 : decode cX9_kindNow 45 = .ok (.iconst 1, 1) := by decide +kernel
theorem dX9_kindNow_46 : decode cX9_kindNow 46 = .ok (.ireturn, 1) := by decide +kernel
theorem dX9_kindNow_47 : decode cX9_kindNow 47 = .ok (.aload_n 0, 1) := by decide +kernel
theorem dX9_kindNow_48 : decode cX9_kindNow 48 = .ok (.iconst 4, 1) := by decide +kernel
theorem dX9_kindNow_49 : decode cX9_kindNow 49 = .ok (.bipush 116, 2) := by decide +kernel
theorem dX9_kindNow_51 : decode cX9_kindNow 51 = .ok (.bipush 119, 2) := by decide +kernel
theorem dX9_kindNow_53 : decode cX9_kindNow 53 = .ok (.bipush 105, 2) := by decide +kernel
theorem dX9_kindNow_55 : decode cX9_kindNow 55 = .ok (.bipush 110, 2) := by decide +kernel
theorem dX9_kindNow_57 : decode cX9_kindNow 57 = .ok (.invokevirtual 91, 3) := by decide +kernel
theorem dX9_kindNow_60 : decode cX9_kindNow 60 = .ok (.ifCond .eq 7, 3) := by decide +kernel
theorem dX9_kindNow_63 : decode cX9_kindNow 63 = .ok (.iconst 2, 1) := by decide +kernel
theorem dX9_kindNow_64 : decode cX9_kindNow 64 = .ok (.goto 25, 3) := by decide +kernel
theorem dX9_kindNow_67 : decode cX9_kindNow 67 = .ok (.aload_n 0, 1) := by decide +kernel
theorem dX9_kindNow_68 : decode cX9_kindNow 68 = .ok (.iconst 4, 1) := by decide +kernel
theorem dX9_kindNow_69 : decode cX9_kindNow 69 = .ok (.bipush 98, 2) := by decide +kernel
theorem dX9_kindNow_71 : decode cX9_kindNow 71 = .ok (.bipush 111, 2) := by decide +kernel
theorem dX9_kindNow_73 : decode cX9_kindNow 73 = .ok (.bipush 116, 2) := by decide +kernel
theorem dX9_kindNow_75 : decode cX9_kindNow 75 = .ok (.bipush 104, 2) := by decide +kernel
theorem dX9_kindNow_77 : decode cX9_kindNow 77 = .ok (.invokevirtual 91, 3) := by decide +kernel
theorem dX9_kindNow_80 : decode cX9_kindNow 80 = .ok (.ifCond .eq 7, 3) := by decide +kernel
theorem dX9_kindNow_83 : decode cX9_kindNow 83 = .ok (.iconst 3, 1) := by decide +kernel
theorem dX9_kindNow_84 : decode cX9_kindNow 84 = .ok (.goto 5, 3) := by decide +kernel
theorem dX9_kindNow_87 : decode cX9_kindNow 87 = .ok (.bipush (-4), 2) := by decide +kernel
theorem dX9_kindNow_89 : decode cX9_kindNow 89 = .ok (.ireturn, 1) := by decide +kernel
theorem dX9_next1_0 : decode cX9_next1 0 = .ok (.aload_n 0, 1) := by decide +kernel
theorem dX9_next1_1 : decode cX9_next1 1 = .ok (.getfield 75, 3) := by decide +kernel
theorem dX9_next1_4 : decode cX9_next1 4 = .ok (.ifCond .le 4, 3) := by decide +kernel
theorem dX9_next1_7 : decode cX9_next1 7 = .ok (.return_, 1) := by decide +kernel
theorem dX9_next1_8 : decode cX9_next1 8 = .ok (.aload_n 0, 1) := by decide +kernel
theorem dX9_next1_9 : decode cX9_next1 9 = .ok (.aload_n 0, 1) := by decide +kernel
theorem dX9_next1_10 : decode cX9_next1 10 = .ok (.getfield 84, 3) := by decide +kernel
theorem dX9_next1_13 : decode cX9_next1 13 = .ok (.invokevirtual 87, 3) := by decide +kernel
theorem dX9_next1_16 : decode cX9_next1 16 = .ok (.bipush 32, 2) := by decide +kernel
theorem dX9_next1_18 : decode cX9_next1 18 = .ok (.if_icmp .ne 16, 3) := by decide +kernel
theorem dX9_next1_21 : decode cX9_next1 21 = .ok (.aload_n 0, 1) := by decide +kernel
theorem dX9_next1_22 : decode cX9_next1 22 = .ok (.dup, 1) := by decide +kernel
theorem dX9_next1_23 : decode cX9_next1 23 = .ok (.getfield 84, 3) := by decide +kernel
theorem dX9_next1_26 : decode cX9_next1 26 = .ok (.iconst 1, 1) := by decide +kernel
theorem dX9_next1_27 : decode cX9_next1 27 = .ok (.iadd, 1) := by decide +kernel
theorem dX9_next1_28 : decode cX9_next1 28 = .ok (.putfield 84, 3) := by decide +kernel
theorem dX9_next1_31 : decode cX9_next1 31 = .ok (.goto (-23), 3) := by decide +kernel
theorem dX9_next1_34 : decode cX9_next1 34 = .ok (.aload_n 0, 1) := by decide +kernel
theorem dX9_next1_35 : decode cX9_next1 35 = .ok (.aload_n 0, 1) := by decide +kernel
theorem dX9_next1_36 : decode cX9_next1 36 = .ok (.getfield 84, 3) := by decide +kernel
theorem dX9_next1_39 : decode cX9_next1 39 = .ok (.putfield 78, 3) := by decide +kernel
theorem dX9_next1_42 : decode cX9_next1 42 = .ok (.aload_n 0, 1) := by decide +kernel
theorem dX9_next1_43 : decode cX9_next1 43 = .ok (.aload_n 0, 1) := by decide +kernel
theorem dX9_next1_44 : decode cX9_next1 44 = .ok (.getfield 84, 3) := by decide +kernel
theorem dX9_next1_47 : decode cX9_next1 47 = .ok (.invokevirtual 87, 3) := by decide +kernel
theorem dX9_next1_50 : decode cX9_next1 50 = .ok (.istore_n 1, 1) := by decide +kernel
theorem dX9_next1_51 : decode cX9_next1 51 = .ok (.iload_n 1, 1) := by decide +kernel
theorem dX9_next1_52 : decode cX9_next1 52 = .ok (.ifCond .ge 11, 3) := by decide +kernel
theorem dX9_next1_55 : decode cX9_next1 55 = .ok (.aload_n 0, 1) := by decide +kernel
theorem dX9_next1_56 : decode cX9_next1 56 = .ok (.iconst 0, 1) := by decide +kernel
theorem dX9_next1_57 : decode cX9_next1 57 = .ok (.putfield 99, 3) := by decide +kernel
theorem dX9_next1_60 : decode cX9_next1 60 = .ok (.goto 214, 3) := by decide +kernel
theorem dX9_next1_63 : decode cX9_next1 63 = .ok (.iload_n 1, 1) := by decide +kernel
theorem dX9_next1_64 : decode cX9_next1 64 = .ok (.i2l, 1) := by decide +kernel
theorem dX9_next1_65 : decode cX9_next1 65 = .ok (.ldc2_w 102, 3) := by decide +kernel
theorem dX9_next1_68 : decode cX9_next1 68 = .ok (.ldc2_w 104, 3) := by decide +kernel
theorem dX9_next1_71 : decode cX9_next1 71 = .ok (.invokestatic 71, 3) := by decide +kernel
theorem dX9_next1_74 : decode cX9_next1 74 = .ok (.ifCond .eq 42, 3) := by decide +kernel
theorem dX9_next1_77 : decode cX9_next1 77 = .ok (.aload_n 0, 1) := by decide +kernel
theorem dX9_next1_78 : decode cX9_next1 78 = .ok (.iconst 1, 1) := by decide +kernel
theorem dX9_next1_79 : decode cX9_next1 79 = .ok (.putfield 99, 3) := by decide +kernel
theorem dX9_next1_82 : decode cX9_next1 82 = .ok (.aload_n 0, 1) := by decide +kernel
theorem dX9_next1_83 : decode cX9_next1 83 = .ok (.aload_n 0, 1) := by decide +kernel
theorem dX9_next1_84 : decode cX9_next1 84 = .ok (.getfield 84, 3) := by decide +kernel
theorem dX9_next1_87 : decode cX9_next1 87 = .ok (.invokevirtual 87, 3) := by decide +kernel
theorem dX9_next1_90 : decode cX9_next1 90 = .ok (.i2l, 1) := by decide +kernel
theorem dX9_next1_91 : decode cX9_next1 91 = .ok (.ldc2_w 102, 3) := by decide +kernel
theorem dX9_next1_94 : decode cX9_next1 94 = .ok (.ldc2_w 104, 3) := by decide +kernel
theorem dX9_next1_97 : decode cX9_next1 97 = .ok (.invokestatic 71, 3) := by decide +kernel
theorem dX9_next1_100 : decode cX9_next1 100 = .ok (.ifCond .eq 174, 3) := by decide +kernel
theorem dX9_next1_103 : decode cX9_next1 103 = .ok (.aload_n 0, 1) := by decide +kernel
theorem dX9_next1_104 : decode cX9_next1 104 = .ok (.dup, 1) := by decide +kernel
theorem dX9_next1_105 : decode cX9_next1 105 = .ok (.getfield 84, 3) := by decide +kernel
theorem dX9_next1_108 : decode cX9_next1 108 = .ok (.iconst 1, 1) := by decide +kernel
theorem dX9_next1_109 : decode cX9_next1 109 = .ok (.iadd, 1) := by decide +kernel
theorem dX9_next1_110 : decode cX9_next1 110 = .ok (.putfield 84, 3) := by decide +kernel
theorem dX9_next1_113 : decode cX9_next1 113 = .ok (.goto (-31), 3) := by decide +kernel
theorem dX9_next1_116 : decode cX9_next1 116 = .ok (.iload_n 1, 1) := by decide +kernel
theorem dX9_next1_117 : decode cX9_next1 117 = .ok (.i2l, 1) := by decide +kernel
theorem dX9_next1_118 : decode cX9_next1 118 = .ok (.ldc2_w 106, 3) := by decide +kernel
theorem dX9_next1_121 : decode cX9_next1 121 = .ok (.ldc2_w 108, 3) := by decide +kernel
theorem dX9_next1_124 : decode cX9_next1 124 = .ok (.invokestatic 71, 3) := by decide +kernel
theorem dX9_next1_127 : decode cX9_next1 127 = .ok (.ifCond .eq 116, 3) := by decide +kernel
theorem dX9_next1_130 : decode cX9_next1 130 = .ok (.aload_n 0, 1) := by decide +kernel
theorem dX9_next1_131 : decode cX9_next1 131 = .ok (.iconst 2, 1) := by decide +kernel
theorem dX9_next1_132 : decode cX9_next1 132 = .ok (.putfield 99, 3) := by decide +kernel
theorem dX9_next1_135 : decode cX9_next1 135 = .ok (.aload_n 0, 1) := by decide +kernel
theorem dX9_next1_136 : decode cX9_next1 136 = .ok (.iconst 0, 1) := by decide +kernel
theorem dX9_next1_137 : decode cX9_next1 137 = .ok (.putfield 110, 3) := by decide +kernel
theorem dX9_next1_140 : decode cX9_next1 140 = .ok (.aload_n 0, 1) := by decide +kernel
theorem dX9_next1_141 : decode cX9_next1 141 = .ok (.aload_n 0, 1) := by decide +kernel
theorem dX9_next1_142 : decode cX9_next1 142 = .ok (.getfield 84, 3) := by decide +kernel
theorem dX9_next1_145 : decode cX9_next1 145 = .ok (.invokevirtual 87, 3) := by decide +kernel
theorem dX9_next1_148 : decode cX9_next1 148 = .ok (.i2l, 1) := by decide +kernel
theorem dX9_next1_149 : decode cX9_next1 149 = .ok (.ldc2_w 106, 3) := by decide +kernel
theorem dX9_next1_152 : decode cX9_next1 152 = .ok (.ldc2_w 108, 3) := by decide +kernel
theorem dX9_next1_155 : decode cX9_next1 155 = .ok (.invokestatic 71, 3) := by decide +kernel
theorem dX9_next1_158 : decode cX9_next1 158 = .ok (.ifCond .eq 59, 3) := by decide +kernel
theorem dX9_next1_161 : decode cX9_next1 161 = .ok (.aload_n 0, 1) := by decide +kernel
theorem dX9_next1_162 : decode cX9_next1 162 = .ok (.aload_n 0, 1) := by decide +kernel
theorem dX9_next1_163 : decode cX9_next1 163 = .ok (.getfield 84, 3) := by decide +kernel
theorem dX9_next1_166 : decode cX9_next1 166 = .ok (.aload_n 0, 1) := by decide +kernel
theorem dX9_next1_167 : decode cX9_next1 167 = .ok (.getfield 78, 3) := by decide +kernel
theorem dX9_next1_170 : decode cX9_next1 170 = .ok (.isub, 1) := by decide +kernel
theorem dX9_next1_171 : decode cX9_next1 171 = .ok (.iconst 3, 1) := by decide +kernel
theorem dX9_next1_172 : decode cX9_next1 172 = .ok (.if_icmp .ge 25, 3) := by decide +kernel
theorem dX9_next1_175 : decode cX9_next1 175 = .ok (.bipush 10, 2) := by decide +kernel
theorem dX9_next1_177 : decode cX9_next1 177 = .ok (.aload_n 0, 1) := by decide +kernel
theorem dX9_next1_178 : decode cX9_next1 178 = .ok (.getfield 110, 3) := by decide +kernel
theorem dX9_next1_181 : decode cX9_next1 181 = .ok (.imul, 1) := by decide +kernel
theorem dX9_next1_182 : decode cX9_next1 182 = .ok (.aload_n 0, 1) := by decide +kernel
theorem dX9_next1_183 : decode cX9_next1 183 = .ok (.aload_n 0, 1) := by decide +kernel
theorem dX9_next1_184 : decode cX9_next1 184 = .ok (.getfield 84, 3) := by decide +kernel
theorem dX9_next1_187 : decode cX9_next1 187 = .ok (.invokevirtual 87, 3) := by decide +kernel
theorem dX9_next1_190 : decode cX9_next1 190 = .ok (.iadd, 1) := by decide +kernel
theorem dX9_next1_191 : decode cX9_next1 191 = .ok (.bipush 48, 2) := by decide +kernel
theorem dX9_next1_193 : decode cX9_next1 193 = .ok (.isub, 1) := by decide +kernel
theorem dX9_next1_194 : decode cX9_next1 194 = .ok (.goto 7, 3) := by decide +kernel
theorem dX9_next1_197 : decode cX9_next1 197 = .ok (.aload_n 0, 1) := by decide +kernel
theorem dX9_next1_198 : decode cX9_next1 198 = .ok (.getfield 110, 3) := by decide +kernel
theorem dX9_next1_201 : decode cX9_next1 201 = .ok (.putfield 110, 3) := by decide +kernel
theorem dX9_next1_204 : decode cX9_next1 204 = .ok (.aload_n 0, 1) := by decide +kernel
theorem dX9_next1_205 : decode cX9_next1 205 = .ok (.dup, 1) := by decide +kernel
theorem dX9_next1_206 : decode cX9_next1 206 = .ok (.getfield 84, 3) := by decide +kernel
theorem dX9_next1_209 : decode cX9_next1 209 = .ok (.iconst 1, 1) := by decide +kernel
theorem dX9_next1_210 : decode cX9_next1 210 = .ok (.iadd, 1) := by decide +kernel
theorem dX9_next1_211 : decode cX9_next1 211 = .ok (.putfield 84, 3) := by decide +kernel
theorem dX9_next1_214 : decode cX9_next1 214 = .ok (.goto (-74), 3) := by decide +kernel
theorem dX9_next1_217 : decode cX9_next1 217 = .ok (.aload_n 0, 1) := by decide +kernel
theorem dX9_next1_218 : decode cX9_next1 218 = .ok (.aload_n 0, 1) := by decide +kernel
theorem dX9_next1_219 : decode cX9_next1 219 = .ok (.getfield 84, 3) := by decide +kernel
theorem dX9_next1_222 : decode cX9_next1 222 = .ok (.aload_n 0, 1) := by decide +kernel
theorem dX9_next1_223 : decode cX9_next1 223 = .ok (.getfield 78, 3) := by decide +kernel
theorem dX9_next1_226 : decode cX9_next1 226 = .ok (.isub, 1) := by decide +kernel
theorem dX9_next1_227 : decode cX9_next1 227 = .ok (.iconst 3, 1) := by decide +kernel
theorem dX9_next1_228 : decode cX9_next1 228 = .ok (.if_icmp .gt 7, 3) := by decide +kernel
theorem dX9_next1_231 : decode cX9_next1 231 = .ok (.iconst 1, 1) := by decide +kernel
theorem dX9_next1_232 : decode cX9_next1 232 = .ok (.goto 4, 3) := by decide +kernel
theorem dX9_next1_235 : decode cX9_next1 235 = .ok (.iconst 0, 1) := by decide +kernel
theorem dX9_next1_236 : decode cX9_next1 236 = .ok (.iconst 1, 1) := by decide +kernel
theorem dX9_next1_237 : decode cX9_next1 237 = .ok (.invokevirtual 113, 3) := by decide +kernel
theorem dX9_next1_240 : decode cX9_next1 240 = .ok (.goto 34, 3) := by decide +kernel
theorem dX9_next1_243 : decode cX9_next1 243 = .ok (.aload_n 0, 1) := by decide +kernel
theorem dX9_next1_244 : decode cX9_next1 244 = .ok (.iconst 3, 1) := by decide +kernel
theorem dX9_next1_245 : decode cX9_next1 245 = .ok (.putfield 99, 3) := by decide +kernel
theorem dX9_next1_248 : decode cX9_next1 248 = .ok (.aload_n 0, 1) := by decide +kernel
theorem dX9_next1_249 : decode cX9_next1 249 = .ok (.iload_n 1, 1) := by decide +kernel
theorem dX9_next1_250 : decode cX9_next1 250 = .ok (.bipush 59, 2) := by decide +kernel
theorem dX9_next1_252 : decode cX9_next1 252 = .ok (.if_icmp .ne 7, 3) := by decide +kernel
theorem dX9_next1_255 : decode cX9_next1 255 = .ok (.iconst 1, 1) := by decide +kernel
theorem dX9_next1_256 : decode cX9_next1 256 = .ok (.goto 4, 3) := by decide +kernel
theorem dX9_next1_259 : decode cX9_next1 259 = .ok (.iconst 0, 1) := by decide +kernel
theorem dX9_next1_260 : decode cX9_next1 260 = .ok (.iconst 1, 1) := by decide +kernel
theorem dX9_next1_261 : decode cX9_next1 261 = .ok (.invokevirtual 113, 3) := by decide +kernel
theorem dX9_next1_264 : decode cX9_next1 264 = .ok (.aload_n 0, 1) := by decide +kernel
theorem dX9_next1_265 : decode cX9_next1 265 = .ok (.dup, 1) := by decide +kernel
theorem dX9_next1_266 : decode cX9_next1 266 = .ok (.getfield 84, 3) := by decide +kernel
theorem dX9_next1_269 : decode cX9_next1 269 = .ok (.iconst 1, 1) := by decide +kernel
theorem dX9_next1_270 : decode cX9_next1 270 = .ok (.iadd, 1) := by decide +kernel
theorem dX9_next1_271 : decode cX9_next1 271 = .ok (.putfield 84, 3) := by decide +kernel
theorem dX9_next1_274 : decode cX9_next1 274 = .ok (.return_, 1) := by decide +kernel
theorem dX9_looked_0 : decode cX9_looked 0 = .ok (.aload_n 0, 1) := by decide +kernel
theorem dX9_looked_1 : decode cX9_looked 1 = .ok (.getfield 75, 3) := by decide +kernel
theorem dX9_looked_4 : decode cX9_looked 4 = .ok (.ifCond .ne 21, 3) := by decide +kernel
theorem dX9_looked_7 : decode cX9_looked 7 = .ok (.aload_n 0, 1) := by decide +kernel
theorem dX9_looked_8 : decode cX9_looked 8 = .ok (.aload_n 0, 1) := by decide +kernel
theorem dX9_looked_9 : decode cX9_looked 9 = .ok (.getfield 99, 3) := by decide +kernel
theorem dX9_looked_12 : decode cX9_looked 12 = .ok (.iconst 2, 1) := by decide +kernel
theorem dX9_looked_13 : decode cX9_looked 13 = .ok (.if_icmp .ne 7, 3) := by decide +kernel
theorem dX9_looked_16 : decode cX9_looked 16 = .ok (.iconst 1, 1) := by decide +kernel
theorem dX9_looked_17 : decode cX9_looked 17 = .ok (.goto 4, 3) := by decide +kernel
theorem dX9_looked_20 : decode cX9_looked 20 = .ok (.iconst 0, 1) := by decide +kernel
theorem dX9_looked_21 : decode cX9_looked 21 = .ok (.iconst 2, 1) := by decide +kernel
theorem dX9_looked_22 : decode cX9_looked 22 = .ok (.invokevirtual 113, 3) := by decide +kernel
theorem dX9_looked_25 : decode cX9_looked 25 = .ok (.aload_n 0, 1) := by decide +kernel
theorem dX9_looked_26 : decode cX9_looked 26 = .ok (.getfield 75, 3) := by decide +kernel
theorem dX9_looked_29 : decode cX9_looked 29 = .ok (.ifCond .ne 20, 3) := by decide +kernel
theorem dX9_looked_32 : decode cX9_looked 32 = .ok (.aload_n 0, 1) := by decide +kernel
theorem dX9_looked_33 : decode cX9_looked 33 = .ok (.aload_n 0, 1) := by decide +kernel
theorem dX9_looked_34 : decode cX9_looked 34 = .ok (.getfield 110, 3) := by decide +kernel
theorem dX9_looked_37 : decode cX9_looked 37 = .ok (.i2l, 1) := by decide +kernel
theorem dX9_looked_38 : decode cX9_looked 38 = .ok (.iload_n 1, 1) := by decide +kernel
theorem dX9_looked_39 : decode cX9_looked 39 = .ok (.i2l, 1) := by decide +kernel
theorem dX9_looked_40 : decode cX9_looked 40 = .ok (.iload_n 2, 1) := by decide +kernel
theorem dX9_looked_41 : decode cX9_looked 41 = .ok (.i2l, 1) := by decide +kernel
theorem dX9_looked_42 : decode cX9_looked 42 = .ok (.invokestatic 71, 3) := by decide +kernel
theorem dX9_looked_45 : decode cX9_looked 45 = .ok (.iconst 3, 1) := by decide +kernel
theorem dX9_looked_46 : decode cX9_looked 46 = .ok (.invokevirtual 113, 3) := by decide +kernel
theorem dX9_looked_49 : decode cX9_looked 49 = .ok (.aload_n 0, 1) := by decide +kernel
theorem dX9_looked_50 : decode cX9_looked 50 = .ok (.getfield 75, 3) := by decide +kernel
theorem dX9_looked_53 : decode cX9_looked 53 = .ok (.ifCond .ne 10, 3) := by decide +kernel
theorem dX9_looked_56 : decode cX9_looked 56 = .ok (.aload_n 0, 1) := by decide +kernel
theorem dX9_looked_57 : decode cX9_looked 57 = .ok (.getfield 110, 3) := by decide +kernel
theorem dX9_looked_60 : decode cX9_looked 60 = .ok (.goto 4, 3) := by decide +kernel
theorem dX9_looked_63 : decode cX9_looked 63 = .ok (.iconst 0, 1) := by decide +kernel
theorem dX9_looked_64 : decode cX9_looked 64 = .ok (.ireturn, 1) := by decide +kernel
theorem dX9_readNumber_0 : decode cX9_readNumber 0 = .ok (.aload_n 0, 1) := by decide +kernel
theorem dX9_readNumber_1 : decode cX9_readNumber 1 = .ok (.iload_n 1, 1) := by decide +kernel
theorem dX9_readNumber_2 : decode cX9_readNumber 2 = .ok (.iload_n 2, 1) := by decide +kernel
theorem dX9_readNumber_3 : decode cX9_readNumber 3 = .ok (.invokevirtual 117, 3) := by decide +kernel
theorem dX9_readNumber_6 : decode cX9_readNumber 6 = .ok (.istore_n 3, 1) := by decide +kernel
theorem dX9_readNumber_7 : decode cX9_readNumber 7 = .ok (.aload_n 0, 1) := by decide +kernel
theorem dX9_readNumber_8 : decode cX9_readNumber 8 = .ok (.invokevirtual 121, 3) := by decide +kernel
theorem dX9_readNumber_11 : decode cX9_readNumber 11 = .ok (.iload_n 3, 1) := by decide +kernel
theorem dX9_readNumber_12 : decode cX9_readNumber 12 = .ok (.ireturn, 1) := by decide +kernel
theorem dX9_readFigure_0 : decode cX9_readFigure 0 = .ok (.iconst 1, 1) := by decide +kernel
theorem dX9_readFigure_1 : decode cX9_readFigure 1 = .ok (.bipush 6, 2) := by decide +kernel
theorem dX9_readFigure_3 : decode cX9_readFigure 3 = .ok (.aload_n 0, 1) := by decide +kernel
theorem dX9_readFigure_4 : decode cX9_readFigure 4 = .ok (.getfield 17, 3) := by decide +kernel
theorem dX9_readFigure_7 : decode cX9_readFigure 7 = .ok (.iconst 0, 1) := by decide +kernel
theorem dX9_readFigure_8 : decode cX9_readFigure 8 = .ok (.iaload, 1) := by decide +kernel
theorem dX9_readFigure_9 : decode cX9_readFigure 9 = .ok (.imul, 1) := by decide +kernel
theorem dX9_readFigure_10 : decode cX9_readFigure 10 = .ok (.iadd, 1) := by decide +kernel
theorem dX9_readFigure_11 : decode cX9_readFigure 11 = .ok (.istore_n 1, 1) := by decide +kernel
theorem dX9_readFigure_12 : decode cX9_readFigure 12 = .ok (.aload_n 0, 1) := by decide +kernel
theorem dX9_readFigure_13 : decode cX9_readFigure 13 = .ok (.getfield 75, 3) := by decide +kernel
theorem dX9_readFigure_16 : decode cX9_readFigure 16 = .ok (.ifCond .ne 18, 3) := by decide +kernel
theorem dX9_readFigure_19 : decode cX9_readFigure 19 = .ok (.aload_n 0, 1) := by decide +kernel
theorem dX9_readFigure_20 : decode cX9_readFigure 20 = .ok (.getfield 99, 3) := by decide +kernel
theorem dX9_readFigure_23 : decode cX9_readFigure 23 = .ok (.iconst 1, 1) := by decide +kernel
theorem dX9_readFigure_24 : decode cX9_readFigure 24 = .ok (.if_icmp .ne 10, 3) := by decide +kernel
theorem dX9_readFigure_27 : decode cX9_readFigure 27 = .ok (.aload_n 0, 1) := by decide +kernel
theorem dX9_readFigure_28 : decode cX9_readFigure 28 = .ok (.invokevirtual 124, 3) := by decide +kernel
theorem dX9_readFigure_31 : decode cX9_readFigure 31 = .ok (.goto 5, 3) := by decide +kernel
theorem dX9_readFigure_34 : decode cX9_readFigure 34 = .ok (.bipush (-4), 2) := by decide +kernel
theorem dX9_readFigure_36 : decode cX9_readFigure 36 = .ok (.istore_n 2, 1) := by decide +kernel
theorem dX9_readFigure_37 : decode cX9_readFigure 37 = .ok (.aload_n 0, 1) := by decide +kernel
theorem dX9_readFigure_38 : decode cX9_readFigure 38 = .ok (.iload_n 2, 1) := by decide +kernel
theorem dX9_readFigure_39 : decode cX9_readFigure 39 = .ok (.bipush (-4), 2) := by decide +kernel
theorem dX9_readFigure_41 : decode cX9_readFigure 41 = .ok (.if_icmp .eq 7, 3) := by decide +kernel
theorem dX9_readFigure_44 : decode cX9_readFigure 44 = .ok (.iconst 1, 1) := by decide +kernel
theorem dX9_readFigure_45 : decode cX9_readFigure 45 = .ok (.goto 4, 3) := by decide +kernel
theorem dX9_readFigure_48 : decode cX9_readFigure 48 = .ok (.iconst 0, 1) := by decide +kernel
theorem dX9_readFigure_49 : decode cX9_readFigure 49 = .ok (.iconst 2, 1) := by decide +kernel
theorem dX9_readFigure_50 : decode cX9_readFigure 50 = .ok (.invokevirtual 113, 3) := by decide +kernel
theorem dX9_readFigure_53 : decode cX9_readFigure 53 = .ok (.aload_n 0, 1) := by decide +kernel
theorem dX9_readFigure_54 : decode cX9_readFigure 54 = .ok (.invokevirtual 121, 3) := by decide +kernel
theorem dX9_readFigure_57 : decode cX9_readFigure 57 = .ok (.aload_n 0, 1) := by decide +kernel
theorem dX9_readFigure_58 : decode cX9_readFigure 58 = .ok (.getfield 75, 3) := by decide +kernel
theorem dX9_readFigure_61 : decode cX9_readFigure 61 = .ok (.ifCond .ne 19, 3) := by decide +kernel
theorem dX9_readFigure_64 : decode cX9_readFigure 64 = .ok (.iload_n 2, 1) := by decide +kernel
theorem dX9_readFigure_65 : decode cX9_readFigure 65 = .ok (.iconst 2, 1) := by decide +kernel
theorem dX9_readFigure_66 : decode cX9_readFigure 66 = .ok (.irem, 1) := by decide +kernel
theorem dX9_readFigure_67 : decode cX9_readFigure 67 = .ok (.iconst 1, 1) := by decide +kernel
theorem dX9_readFigure_68 : decode cX9_readFigure 68 = .ok (.if_icmp .ne 12, 3) := by decide +kernel
theorem dX9_readFigure_71 : decode cX9_readFigure 71 = .ok (.aload_n 0, 1) := by decide +kernel
theorem dX9_readFigure_72 : decode cX9_readFigure 72 = .ok (.iconst 1, 1) := by decide +kernel
theorem dX9_readFigure_73 : decode cX9_readFigure 73 = .ok (.iconst 3, 1) := by decide +kernel
theorem dX9_readFigure_74 : decode cX9_readFigure 74 = .ok (.invokevirtual 128, 3) := by decide +kernel
theorem dX9_readFigure_77 : decode cX9_readFigure 77 = .ok (.goto 5, 3) := by decide +kernel
theorem dX9_readFigure_80 : decode cX9_readFigure 80 = .ok (.bipush (-4), 2) := by decide +kernel
theorem dX9_readFigure_82 : decode cX9_readFigure 82 = .ok (.istore_n 3, 1) := by decide +kernel
theorem dX9_readFigure_83 : decode cX9_readFigure 83 = .ok (.aload_n 0, 1) := by decide +kernel
theorem dX9_readFigure_84 : decode cX9_readFigure 84 = .ok (.getfield 75, 3) := by decide +kernel
theorem dX9_readFigure_87 : decode cX9_readFigure 87 = .ok (.ifCond .ne 18, 3) := by decide +kernel
theorem dX9_readFigure_90 : decode cX9_readFigure 90 = .ok (.iload_n 2, 1) := by decide +kernel
theorem dX9_readFigure_91 : decode cX9_readFigure 91 = .ok (.iconst 1, 1) := by decide +kernel
theorem dX9_readFigure_92 : decode cX9_readFigure 92 = .ok (.if_icmp .le 13, 3) := by decide +kernel
theorem dX9_readFigure_95 : decode cX9_readFigure 95 = .ok (.aload_n 0, 1) := by decide +kernel
theorem dX9_readFigure_96 : decode cX9_readFigure 96 = .ok (.iconst 1, 1) := by decide +kernel
theorem dX9_readFigure_97 : decode cX9_readFigure 97 = .ok (.bipush 59, 2) := by decide +kernel
theorem dX9_readFigure_99 : decode cX9_readFigure 99 = .ok (.invokevirtual 128, 3) := by decide +kernel
theorem dX9_readFigure_102 : decode cX9_readFigure 102 = .ok (.goto 5, 3) := by decide +kernel
theorem dX9_readFigure_105 : decode cX9_readFigure 105 = .ok (.bipush (-4), 2) := by decide +kernel
theorem dX9_readFigure_107 : decode cX9_readFigure 107 = .ok (.istore 4, 2) := by decide +kernel
theorem dX9_readFigure_109 : decode cX9_readFigure 109 = .ok (.aload_n 0, 1) := by decide +kernel
theorem dX9_readFigure_110 : decode cX9_readFigure 110 = .ok (.iconst 2, 1) := by decide +kernel
theorem dX9_readFigure_111 : decode cX9_readFigure 111 = .ok (.bipush 60, 2) := by decide +kernel
theorem dX9_readFigure_113 : decode cX9_readFigure 113 = .ok (.invokevirtual 117, 3) := by decide +kernel
theorem dX9_readFigure_116 : decode cX9_readFigure 116 = .ok (.istore 5, 2) := by decide +kernel
theorem dX9_readFigure_118 : decode cX9_readFigure 118 = .ok (.aload_n 0, 1) := by decide +kernel
theorem dX9_readFigure_119 : decode cX9_readFigure 119 = .ok (.getfield 75, 3) := by decide +kernel
theorem dX9_readFigure_122 : decode cX9_readFigure 122 = .ok (.ifCond .ne 20, 3) := by decide +kernel
theorem dX9_readFigure_125 : decode cX9_readFigure 125 = .ok (.aload_n 0, 1) := by decide +kernel
theorem dX9_readFigure_126 : decode cX9_readFigure 126 = .ok (.iload 5, 2) := by decide +kernel
theorem dX9_readFigure_128 : decode cX9_readFigure 128 = .ok (.iload 4, 2) := by decide +kernel
theorem dX9_readFigure_130 : decode cX9_readFigure 130 = .ok (.if_icmp .le 7, 3) := by decide +kernel
theorem dX9_readFigure_133 : decode cX9_readFigure 133 = .ok (.iconst 1, 1) := by decide +kernel
theorem dX9_readFigure_134 : decode cX9_readFigure 134 = .ok (.goto 4, 3) := by decide +kernel
theorem dX9_readFigure_137 : decode cX9_readFigure 137 = .ok (.iconst 0, 1) := by decide +kernel
theorem dX9_readFigure_138 : decode cX9_readFigure 138 = .ok (.iconst 4, 1) := by decide +kernel
theorem dX9_readFigure_139 : decode cX9_readFigure 139 = .ok (.invokevirtual 113, 3) := by decide +kernel
theorem dX9_readFigure_142 : decode cX9_readFigure 142 = .ok (.aload_n 0, 1) := by decide +kernel
theorem dX9_readFigure_143 : decode cX9_readFigure 143 = .ok (.invokevirtual 121, 3) := by decide +kernel
theorem dX9_readFigure_146 : decode cX9_readFigure 146 = .ok (.aload_n 0, 1) := by decide +kernel
theorem dX9_readFigure_147 : decode cX9_readFigure 147 = .ok (.iconst 0, 1) := by decide +kernel
theorem dX9_readFigure_148 : decode cX9_readFigure 148 = .ok (.bipush 59, 2) := by decide +kernel
theorem dX9_readFigure_150 : decode cX9_readFigure 150 = .ok (.invokevirtual 117, 3) := by decide +kernel
theorem dX9_readFigure_153 : decode cX9_readFigure 153 = .ok (.istore 6, 2) := by decide +kernel
theorem dX9_readFigure_155 : decode cX9_readFigure 155 = .ok (.aload_n 0, 1) := by decide +kernel
theorem dX9_readFigure_156 : decode cX9_readFigure 156 = .ok (.getfield 75, 3) := by decide +kernel
theorem dX9_readFigure_159 : decode cX9_readFigure 159 = .ok (.ifCond .ne 20, 3) := by decide +kernel
theorem dX9_readFigure_162 : decode cX9_readFigure 162 = .ok (.aload_n 0, 1) := by decide +kernel
theorem dX9_readFigure_163 : decode cX9_readFigure 163 = .ok (.iload 6, 2) := by decide +kernel
theorem dX9_readFigure_165 : decode cX9_readFigure 165 = .ok (.iload 5, 2) := by decide +kernel
theorem dX9_readFigure_167 : decode cX9_readFigure 167 = .ok (.if_icmp .ge 7, 3) := by decide +kernel
theorem dX9_readFigure_170 : decode cX9_readFigure 170 = .ok (.iconst 1, 1) := by decide +kernel
theorem dX9_readFigure_171 : decode cX9_readFigure 171 = .ok (.goto 4, 3) := by decide +kernel
theorem dX9_readFigure_174 : decode cX9_readFigure 174 = .ok (.iconst 0, 1) := by decide +kernel
theorem dX9_readFigure_175 : decode cX9_readFigure 175 = .ok (.iconst 4, 1) := by decide +kernel
theorem dX9_readFigure_176 : decode cX9_readFigure 176 = .ok (.invokevirtual 113, 3) := by decide +kernel
theorem dX9_readFigure_179 : decode cX9_readFigure 179 = .ok (.aload_n 0, 1) := by decide +kernel
theorem dX9_readFigure_180 : decode cX9_readFigure 180 = .ok (.invokevirtual 121, 3) := by decide +kernel
theorem dX9_readFigure_183 : decode cX9_readFigure 183 = .ok (.aload_n 0, 1) := by decide +kernel
theorem dX9_readFigure_184 : decode cX9_readFigure 184 = .ok (.iconst 0, 1) := by decide +kernel
theorem dX9_readFigure_185 : decode cX9_readFigure 185 = .ok (.bipush 8, 2) := by decide +kernel
theorem dX9_readFigure_187 : decode cX9_readFigure 187 = .ok (.invokevirtual 128, 3) := by decide +kernel
theorem dX9_readFigure_190 : decode cX9_readFigure 190 = .ok (.istore 7, 2) := by decide +kernel
theorem dX9_readFigure_192 : decode cX9_readFigure 192 = .ok (.aload_n 0, 1) := by decide +kernel
theorem dX9_readFigure_193 : decode cX9_readFigure 193 = .ok (.getfield 17, 3) := by decide +kernel
theorem dX9_readFigure_196 : decode cX9_readFigure 196 = .ok (.iload_n 1, 1) := by decide +kernel
theorem dX9_readFigure_197 : decode cX9_readFigure 197 = .ok (.iconst 0, 1) := by decide +kernel
theorem dX9_readFigure_198 : decode cX9_readFigure 198 = .ok (.iadd, 1) := by decide +kernel
theorem dX9_readFigure_199 : decode cX9_readFigure 199 = .ok (.iload_n 2, 1) := by decide +kernel
theorem dX9_readFigure_200 : decode cX9_readFigure 200 = .ok (.iastore, 1) := by decide +kernel
theorem dX9_readFigure_201 : decode cX9_readFigure 201 = .ok (.aload_n 0, 1) := by decide +kernel
theorem dX9_readFigure_202 : decode cX9_readFigure 202 = .ok (.getfield 17, 3) := by decide +kernel
theorem dX9_readFigure_205 : decode cX9_readFigure 205 = .ok (.iload_n 1, 1) := by decide +kernel
theorem dX9_readFigure_206 : decode cX9_readFigure 206 = .ok (.iconst 1, 1) := by decide +kernel
theorem dX9_readFigure_207 : decode cX9_readFigure 207 = .ok (.iadd, 1) := by decide +kernel
theorem dX9_readFigure_208 : decode cX9_readFigure 208 = .ok (.iload 5, 2) := by decide +kernel
theorem dX9_readFigure_210 : decode cX9_readFigure 210 = .ok (.iastore, 1) := by decide +kernel
theorem dX9_readFigure_211 : decode cX9_readFigure 211 = .ok (.aload_n 0, 1) := by decide +kernel
theorem dX9_readFigure_212 : decode cX9_readFigure 212 = .ok (.getfield 17, 3) := by decide +kernel
theorem dX9_readFigure_215 : decode cX9_readFigure 215 = .ok (.iload_n 1, 1) := by decide +kernel
theorem dX9_readFigure_216 : decode cX9_readFigure 216 = .ok (.iconst 2, 1) := by decide +kernel
theorem dX9_readFigure_217 : decode cX9_readFigure 217 = .ok (.iadd, 1) := by decide +kernel
theorem dX9_readFigure_218 : decode cX9_readFigure 218 = .ok (.iload 6, 2) := by decide +kernel
theorem dX9_readFigure_220 : decode cX9_readFigure 220 = .ok (.iastore, 1) := by decide +kernel
theorem dX9_readFigure_221 : decode cX9_readFigure 221 = .ok (.aload_n 0, 1) := by decide +kernel
theorem dX9_readFigure_222 : decode cX9_readFigure 222 = .ok (.getfield 17, 3) := by decide +kernel
theorem dX9_readFigure_225 : decode cX9_readFigure 225 = .ok (.iload_n 1, 1) := by decide +kernel
theorem dX9_readFigure_226 : decode cX9_readFigure 226 = .ok (.iconst 3, 1) := by decide +kernel
theorem dX9_readFigure_227 : decode cX9_readFigure 227 = .ok (.iadd, 1) := by decide +kernel
theorem dX9_readFigure_228 : decode cX9_readFigure 228 = .ok (.iload 7, 2) := by decide +kernel
theorem dX9_readFigure_230 : decode cX9_readFigure 230 = .ok (.iastore, 1) := by decide +kernel
theorem dX9_readFigure_231 : decode cX9_readFigure 231 = .ok (.aload_n 0, 1) := by decide +kernel
theorem dX9_readFigure_232 : decode cX9_readFigure 232 = .ok (.getfield 17, 3) := by decide +kernel
theorem dX9_readFigure_235 : decode cX9_readFigure 235 = .ok (.iload_n 1, 1) := by decide +kernel
theorem dX9_readFigure_236 : decode cX9_readFigure 236 = .ok (.iconst 4, 1) := by decide +kernel
theorem dX9_readFigure_237 : decode cX9_readFigure 237 = .ok (.iadd, 1) := by decide +kernel
theorem dX9_readFigure_238 : decode cX9_readFigure 238 = .ok (.iload_n 3, 1) := by decide +kernel
theorem dX9_readFigure_239 : decode cX9_readFigure 239 = .ok (.iastore, 1) := by decide +kernel
theorem dX9_readFigure_240 : decode cX9_readFigure 240 = .ok (.aload_n 0, 1) := by decide +kernel
theorem dX9_readFigure_241 : decode cX9_readFigure 241 = .ok (.getfield 17, 3) := by decide +kernel
theorem dX9_readFigure_244 : decode cX9_readFigure 244 = .ok (.iload_n 1, 1) := by decide +kernel
theorem dX9_readFigure_245 : decode cX9_readFigure 245 = .ok (.iconst 5, 1) := by decide +kernel
theorem dX9_readFigure_246 : decode cX9_readFigure 246 = .ok (.iadd, 1) := by decide +kernel
theorem dX9_readFigure_247 : decode cX9_readFigure 247 = .ok (.iload 4, 2) := by decide +kernel
theorem dX9_readFigure_249 : decode cX9_readFigure 249 = .ok (.iastore, 1) := by decide +kernel
theorem dX9_readFigure_250 : decode cX9_readFigure 250 = .ok (.aload_n 0, 1) := by decide +kernel
theorem dX9_readFigure_251 : decode cX9_readFigure 251 = .ok (.getfield 17, 3) := by decide +kernel
theorem dX9_readFigure_254 : decode cX9_readFigure 254 = .ok (.iconst 0, 1) := by decide +kernel
theorem dX9_readFigure_255 : decode cX9_readFigure 255 = .ok (.dup2, 1) := by decide +kernel
theorem dX9_readFigure_256 : decode cX9_readFigure 256 = .ok (.iaload, 1) := by decide +kernel
theorem dX9_readFigure_257 : decode cX9_readFigure 257 = .ok (.iconst 1, 1) := by decide +kernel
theorem dX9_readFigure_258 : decode cX9_readFigure 258 = .ok (.iadd, 1) := by decide +kernel
theorem dX9_readFigure_259 : decode cX9_readFigure 259 = .ok (.iastore, 1) := by decide +kernel
theorem dX9_readFigure_260 : decode cX9_readFigure 260 = .ok (.return_, 1) := by decide +kernel
theorem dX9_readVote_0 : decode cX9_readVote 0 = .ok (.aload_n 0, 1) := by decide +kernel
theorem dX9_readVote_1 : decode cX9_readVote 1 = .ok (.getfield 17, 3) := by decide +kernel
theorem dX9_readVote_4 : decode cX9_readVote 4 = .ok (.bipush 37, 2) := by decide +kernel
theorem dX9_readVote_6 : decode cX9_readVote 6 = .ok (.iaload, 1) := by decide +kernel
theorem dX9_readVote_7 : decode cX9_readVote 7 = .ok (.istore_n 1, 1) := by decide +kernel
theorem dX9_readVote_8 : decode cX9_readVote 8 = .ok (.bipush 38, 2) := by decide +kernel
theorem dX9_readVote_10 : decode cX9_readVote 10 = .ok (.iconst 5, 1) := by decide +kernel
theorem dX9_readVote_11 : decode cX9_readVote 11 = .ok (.iload_n 1, 1) := by decide +kernel
theorem dX9_readVote_12 : decode cX9_readVote 12 = .ok (.imul, 1) := by decide +kernel
theorem dX9_readVote_13 : decode cX9_readVote 13 = .ok (.iadd, 1) := by decide +kernel
theorem dX9_readVote_14 : decode cX9_readVote 14 = .ok (.istore_n 2, 1) := by decide +kernel
theorem dX9_readVote_15 : decode cX9_readVote 15 = .ok (.aload_n 0, 1) := by decide +kernel
theorem dX9_readVote_16 : decode cX9_readVote 16 = .ok (.getfield 17, 3) := by decide +kernel
theorem dX9_readVote_19 : decode cX9_readVote 19 = .ok (.iload_n 2, 1) := by decide +kernel
theorem dX9_readVote_20 : decode cX9_readVote 20 = .ok (.aload_n 0, 1) := by decide +kernel
theorem dX9_readVote_21 : decode cX9_readVote 21 = .ok (.iload_n 1, 1) := by decide +kernel
theorem dX9_readVote_22 : decode cX9_readVote 22 = .ok (.ifCond .ne 7, 3) := by decide +kernel
theorem dX9_readVote_25 : decode cX9_readVote 25 = .ok (.iconst 0, 1) := by decide +kernel
theorem dX9_readVote_26 : decode cX9_readVote 26 = .ok (.goto 11, 3) := by decide +kernel
theorem dX9_readVote_29 : decode cX9_readVote 29 = .ok (.aload_n 0, 1) := by decide +kernel
theorem dX9_readVote_30 : decode cX9_readVote 30 = .ok (.getfield 17, 3) := by decide +kernel
theorem dX9_readVote_33 : decode cX9_readVote 33 = .ok (.iload_n 2, 1) := by decide +kernel
theorem dX9_readVote_34 : decode cX9_readVote 34 = .ok (.iconst 5, 1) := by decide +kernel
theorem dX9_readVote_35 : decode cX9_readVote 35 = .ok (.isub, 1) := by decide +kernel
theorem dX9_readVote_36 : decode cX9_readVote 36 = .ok (.iaload, 1) := by decide +kernel
theorem dX9_readVote_37 : decode cX9_readVote 37 = .ok (.bipush 99, 2) := by decide +kernel
theorem dX9_readVote_39 : decode cX9_readVote 39 = .ok (.invokevirtual 128, 3) := by decide +kernel
theorem dX9_readVote_42 : decode cX9_readVote 42 = .ok (.iastore, 1) := by decide +kernel
theorem dX9_readVote_43 : decode cX9_readVote 43 = .ok (.aload_n 0, 1) := by decide +kernel
theorem dX9_readVote_44 : decode cX9_readVote 44 = .ok (.getfield 17, 3) := by decide +kernel
theorem dX9_readVote_47 : decode cX9_readVote 47 = .ok (.iload_n 2, 1) := by decide +kernel
theorem dX9_readVote_48 : decode cX9_readVote 48 = .ok (.iconst 1, 1) := by decide +kernel
theorem dX9_readVote_49 : decode cX9_readVote 49 = .ok (.iadd, 1) := by decide +kernel
theorem dX9_readVote_50 : decode cX9_readVote 50 = .ok (.aload_n 0, 1) := by decide +kernel
theorem dX9_readVote_51 : decode cX9_readVote 51 = .ok (.iconst 0, 1) := by decide +kernel
theorem dX9_readVote_52 : decode cX9_readVote 52 = .ok (.iconst 5, 1) := by decide +kernel
theorem dX9_readVote_53 : decode cX9_readVote 53 = .ok (.invokevirtual 128, 3) := by decide +kernel
theorem dX9_readVote_56 : decode cX9_readVote 56 = .ok (.iastore, 1) := by decide +kernel
theorem dX9_readVote_57 : decode cX9_readVote 57 = .ok (.aload_n 0, 1) := by decide +kernel
theorem dX9_readVote_58 : decode cX9_readVote 58 = .ok (.aload_n 0, 1) := by decide +kernel
theorem dX9_readVote_59 : decode cX9_readVote 59 = .ok (.getfield 17, 3) := by decide +kernel
theorem dX9_readVote_62 : decode cX9_readVote 62 = .ok (.iload_n 2, 1) := by decide +kernel
theorem dX9_readVote_63 : decode cX9_readVote 63 = .ok (.iconst 1, 1) := by decide +kernel
theorem dX9_readVote_64 : decode cX9_readVote 64 = .ok (.iadd, 1) := by decide +kernel
theorem dX9_readVote_65 : decode cX9_readVote 65 = .ok (.iaload, 1) := by decide +kernel
theorem dX9_readVote_66 : decode cX9_readVote 66 = .ok (.aload_n 0, 1) := by decide +kernel
theorem dX9_readVote_67 : decode cX9_readVote 67 = .ok (.getfield 60, 3) := by decide +kernel
theorem dX9_readVote_70 : decode cX9_readVote 70 = .ok (.if_icmp .le 14, 3) := by decide +kernel
theorem dX9_readVote_73 : decode cX9_readVote 73 = .ok (.aload_n 0, 1) := by decide +kernel
theorem dX9_readVote_74 : decode cX9_readVote 74 = .ok (.getfield 17, 3) := by decide +kernel
theorem dX9_readVote_77 : decode cX9_readVote 77 = .ok (.iload_n 2, 1) := by decide +kernel
theorem dX9_readVote_78 : decode cX9_readVote 78 = .ok (.iconst 1, 1) := by decide +kernel
theorem dX9_readVote_79 : decode cX9_readVote 79 = .ok (.iadd, 1) := by decide +kernel
theorem dX9_readVote_80 : decode cX9_readVote 80 = .ok (.iaload, 1) := by decide +kernel
theorem dX9_readVote_81 : decode cX9_readVote 81 = .ok (.goto 7, 3) := by decide +kernel
theorem dX9_readVote_84 : decode cX9_readVote 84 = .ok (.aload_n 0, 1) := by decide +kernel
theorem dX9_readVote_85 : decode cX9_readVote 85 = .ok (.getfield 60, 3) := by decide +kernel
theorem dX9_readVote_88 : decode cX9_readVote 88 = .ok (.putfield 60, 3) := by decide +kernel
theorem dX9_readVote_91 : decode cX9_readVote 91 = .ok (.aload_n 0, 1) := by decide +kernel
theorem dX9_readVote_92 : decode cX9_readVote 92 = .ok (.getfield 17, 3) := by decide +kernel
theorem dX9_readVote_95 : decode cX9_readVote 95 = .ok (.iload_n 2, 1) := by decide +kernel
theorem dX9_readVote_96 : decode cX9_readVote 96 = .ok (.iconst 2, 1) := by decide +kernel
theorem dX9_readVote_97 : decode cX9_readVote 97 = .ok (.iadd, 1) := by decide +kernel
theorem dX9_readVote_98 : decode cX9_readVote 98 = .ok (.aload_n 0, 1) := by decide +kernel
theorem dX9_readVote_99 : decode cX9_readVote 99 = .ok (.iconst 2, 1) := by decide +kernel
theorem dX9_readVote_100 : decode cX9_readVote 100 = .ok (.bipush 60, 2) := by decide +kernel
theorem dX9_readVote_102 : decode cX9_readVote 102 = .ok (.invokevirtual 128, 3) := by decide +kernel
theorem dX9_readVote_105 : decode cX9_readVote 105 = .ok (.iastore, 1) := by decide +kernel
theorem dX9_readVote_106 : decode cX9_readVote 106 = .ok (.aload_n 0, 1) := by decide +kernel
theorem dX9_readVote_107 : decode cX9_readVote 107 = .ok (.getfield 17, 3) := by decide +kernel
theorem dX9_readVote_110 : decode cX9_readVote 110 = .ok (.iload_n 2, 1) := by decide +kernel
theorem dX9_readVote_111 : decode cX9_readVote 111 = .ok (.iconst 3, 1) := by decide +kernel
theorem dX9_readVote_112 : decode cX9_readVote 112 = .ok (.iadd, 1) := by decide +kernel
theorem dX9_readVote_113 : decode cX9_readVote 113 = .ok (.aload_n 0, 1) := by decide +kernel
theorem dX9_readVote_114 : decode cX9_readVote 114 = .ok (.iconst 0, 1) := by decide +kernel
theorem dX9_readVote_115 : decode cX9_readVote 115 = .ok (.aload_n 0, 1) := by decide +kernel
theorem dX9_readVote_116 : decode cX9_readVote 116 = .ok (.getfield 17, 3) := by decide +kernel
theorem dX9_readVote_119 : decode cX9_readVote 119 = .ok (.iload_n 2, 1) := by decide +kernel
theorem dX9_readVote_120 : decode cX9_readVote 120 = .ok (.iconst 2, 1) := by decide +kernel
theorem dX9_readVote_121 : decode cX9_readVote 121 = .ok (.iadd, 1) := by decide +kernel
theorem dX9_readVote_122 : decode cX9_readVote 122 = .ok (.iaload, 1) := by decide +kernel
theorem dX9_readVote_123 : decode cX9_readVote 123 = .ok (.iconst 1, 1) := by decide +kernel
theorem dX9_readVote_124 : decode cX9_readVote 124 = .ok (.isub, 1) := by decide +kernel
theorem dX9_readVote_125 : decode cX9_readVote 125 = .ok (.invokevirtual 128, 3) := by decide +kernel
theorem dX9_readVote_128 : decode cX9_readVote 128 = .ok (.iastore, 1) := by decide +kernel
theorem dX9_readVote_129 : decode cX9_readVote 129 = .ok (.aload_n 0, 1) := by decide +kernel
theorem dX9_readVote_130 : decode cX9_readVote 130 = .ok (.getfield 17, 3) := by decide +kernel
theorem dX9_readVote_133 : decode cX9_readVote 133 = .ok (.iload_n 2, 1) := by decide +kernel
theorem dX9_readVote_134 : decode cX9_readVote 134 = .ok (.iconst 4, 1) := by decide +kernel
theorem dX9_readVote_135 : decode cX9_readVote 135 = .ok (.iadd, 1) := by decide +kernel
theorem dX9_readVote_136 : decode cX9_readVote 136 = .ok (.aload_n 0, 1) := by decide +kernel
end
section
theorem dX9_readVote_137 : decode cX9_readVote 137 = .ok (.iconst 0, 1) := by decide +kernel
theorem dX9_readVote_138 : decode cX9_readVote 138 = .ok (.bipush 8, 2) := by decide +kernel
theorem dX9_readVote_140 : decode cX9_readVote 140 = .ok (.invokevirtual 128, 3) := by decide +kernel
theorem dX9_readVote_143 : decode cX9_readVote 143 = .ok (.iastore, 1) := by decide +kernel
theorem dX9_readVote_144 : decode cX9_readVote 144 = .ok (.aload_n 0, 1) := by decide +kernel
theorem dX9_readVote_145 : decode cX9_readVote 145 = .ok (.getfield 17, 3) := by decide +kernel
theorem dX9_readVote_148 : decode cX9_readVote 148 = .ok (.bipush 37, 2) := by decide +kernel
theorem dX9_readVote_150 : decode cX9_readVote 150 = .ok (.iload_n 1, 1) := by decide +kernel
theorem dX9_readVote_151 : decode cX9_readVote 151 = .ok (.iconst 1, 1) := by decide +kernel
theorem dX9_readVote_152 : decode cX9_readVote 152 = .ok (.iadd, 1) := by decide +kernel
theorem dX9_readVote_153 : decode cX9_readVote 153 = .ok (.iastore, 1) := by decide +kernel
theorem dX9_readVote_154 : decode cX9_readVote 154 = .ok (.return_, 1) := by decide +kernel
theorem dX9_readLine_0 : decode cX9_readLine 0 = .ok (.aload_n 0, 1) := by decide +kernel
theorem dX9_readLine_1 : decode cX9_readLine 1 = .ok (.getfield 99, 3) := by decide +kernel
theorem dX9_readLine_4 : decode cX9_readLine 4 = .ok (.iconst 1, 1) := by decide +kernel
theorem dX9_readLine_5 : decode cX9_readLine 5 = .ok (.if_icmp .ne 10, 3) := by decide +kernel
theorem dX9_readLine_8 : decode cX9_readLine 8 = .ok (.aload_n 0, 1) := by decide +kernel
theorem dX9_readLine_9 : decode cX9_readLine 9 = .ok (.invokevirtual 131, 3) := by decide +kernel
theorem dX9_readLine_12 : decode cX9_readLine 12 = .ok (.goto 5, 3) := by decide +kernel
theorem dX9_readLine_15 : decode cX9_readLine 15 = .ok (.bipush (-4), 2) := by decide +kernel
theorem dX9_readLine_17 : decode cX9_readLine 17 = .ok (.istore_n 1, 1) := by decide +kernel
theorem dX9_readLine_18 : decode cX9_readLine 18 = .ok (.aload_n 0, 1) := by decide +kernel
theorem dX9_readLine_19 : decode cX9_readLine 19 = .ok (.iload_n 1, 1) := by decide +kernel
theorem dX9_readLine_20 : decode cX9_readLine 20 = .ok (.bipush (-4), 2) := by decide +kernel
theorem dX9_readLine_22 : decode cX9_readLine 22 = .ok (.if_icmp .eq 7, 3) := by decide +kernel
theorem dX9_readLine_25 : decode cX9_readLine 25 = .ok (.iconst 1, 1) := by decide +kernel
theorem dX9_readLine_26 : decode cX9_readLine 26 = .ok (.goto 4, 3) := by decide +kernel
theorem dX9_readLine_29 : decode cX9_readLine 29 = .ok (.iconst 0, 1) := by decide +kernel
theorem dX9_readLine_30 : decode cX9_readLine 30 = .ok (.iconst 2, 1) := by decide +kernel
theorem dX9_readLine_31 : decode cX9_readLine 31 = .ok (.invokevirtual 113, 3) := by decide +kernel
theorem dX9_readLine_34 : decode cX9_readLine 34 = .ok (.aload_n 0, 1) := by decide +kernel
theorem dX9_readLine_35 : decode cX9_readLine 35 = .ok (.iload_n 1, 1) := by decide +kernel
theorem dX9_readLine_36 : decode cX9_readLine 36 = .ok (.ifCond .ne 14, 3) := by decide +kernel
theorem dX9_readLine_39 : decode cX9_readLine 39 = .ok (.aload_n 0, 1) := by decide +kernel
theorem dX9_readLine_40 : decode cX9_readLine 40 = .ok (.getfield 17, 3) := by decide +kernel
theorem dX9_readLine_43 : decode cX9_readLine 43 = .ok (.iconst 0, 1) := by decide +kernel
theorem dX9_readLine_44 : decode cX9_readLine 44 = .ok (.iaload, 1) := by decide +kernel
theorem dX9_readLine_45 : decode cX9_readLine 45 = .ok (.bipush 6, 2) := by decide +kernel
theorem dX9_readLine_47 : decode cX9_readLine 47 = .ok (.if_icmp .ge 24, 3) := by decide +kernel
theorem dX9_readLine_50 : decode cX9_readLine 50 = .ok (.iload_n 1, 1) := by decide +kernel
theorem dX9_readLine_51 : decode cX9_readLine 51 = .ok (.iconst 3, 1) := by decide +kernel
theorem dX9_readLine_52 : decode cX9_readLine 52 = .ok (.if_icmp .ne 15, 3) := by decide +kernel
theorem dX9_readLine_55 : decode cX9_readLine 55 = .ok (.aload_n 0, 1) := by decide +kernel
theorem dX9_readLine_56 : decode cX9_readLine 56 = .ok (.getfield 17, 3) := by decide +kernel
theorem dX9_readLine_59 : decode cX9_readLine 59 = .ok (.bipush 37, 2) := by decide +kernel
theorem dX9_readLine_61 : decode cX9_readLine 61 = .ok (.iaload, 1) := by decide +kernel
theorem dX9_readLine_62 : decode cX9_readLine 62 = .ok (.bipush 6, 2) := by decide +kernel
theorem dX9_readLine_64 : decode cX9_readLine 64 = .ok (.if_icmp .ge 7, 3) := by decide +kernel
theorem dX9_readLine_67 : decode cX9_readLine 67 = .ok (.iconst 1, 1) := by decide +kernel
theorem dX9_readLine_68 : decode cX9_readLine 68 = .ok (.goto 4, 3) := by decide +kernel
theorem dX9_readLine_71 : decode cX9_readLine 71 = .ok (.iconst 0, 1) := by decide +kernel
theorem dX9_readLine_72 : decode cX9_readLine 72 = .ok (.iconst 5, 1) := by decide +kernel
theorem dX9_readLine_73 : decode cX9_readLine 73 = .ok (.invokevirtual 113, 3) := by decide +kernel
theorem dX9_readLine_76 : decode cX9_readLine 76 = .ok (.aload_n 0, 1) := by decide +kernel
theorem dX9_readLine_77 : decode cX9_readLine 77 = .ok (.iload_n 1, 1) := by decide +kernel
theorem dX9_readLine_78 : decode cX9_readLine 78 = .ok (.iconst 1, 1) := by decide +kernel
theorem dX9_readLine_79 : decode cX9_readLine 79 = .ok (.if_icmp .ne 10, 3) := by decide +kernel
theorem dX9_readLine_82 : decode cX9_readLine 82 = .ok (.aload_n 0, 1) := by decide +kernel
theorem dX9_readLine_83 : decode cX9_readLine 83 = .ok (.getfield 57, 3) := by decide +kernel
theorem dX9_readLine_86 : decode cX9_readLine 86 = .ok (.ifCond .ne 19, 3) := by decide +kernel
theorem dX9_readLine_89 : decode cX9_readLine 89 = .ok (.iload_n 1, 1) := by decide +kernel
theorem dX9_readLine_90 : decode cX9_readLine 90 = .ok (.iconst 2, 1) := by decide +kernel
theorem dX9_readLine_91 : decode cX9_readLine 91 = .ok (.if_icmp .ne 10, 3) := by decide +kernel
theorem dX9_readLine_94 : decode cX9_readLine 94 = .ok (.aload_n 0, 1) := by decide +kernel
theorem dX9_readLine_95 : decode cX9_readLine 95 = .ok (.getfield 53, 3) := by decide +kernel
theorem dX9_readLine_98 : decode cX9_readLine 98 = .ok (.ifCond .ne 7, 3) := by decide +kernel
theorem dX9_readLine_101 : decode cX9_readLine 101 = .ok (.iconst 1, 1) := by decide +kernel
theorem dX9_readLine_102 : decode cX9_readLine 102 = .ok (.goto 4, 3) := by decide +kernel
theorem dX9_readLine_105 : decode cX9_readLine 105 = .ok (.iconst 0, 1) := by decide +kernel
theorem dX9_readLine_106 : decode cX9_readLine 106 = .ok (.iconst 4, 1) := by decide +kernel
theorem dX9_readLine_107 : decode cX9_readLine 107 = .ok (.invokevirtual 113, 3) := by decide +kernel
theorem dX9_readLine_110 : decode cX9_readLine 110 = .ok (.aload_n 0, 1) := by decide +kernel
theorem dX9_readLine_111 : decode cX9_readLine 111 = .ok (.invokevirtual 121, 3) := by decide +kernel
theorem dX9_readLine_114 : decode cX9_readLine 114 = .ok (.aload_n 0, 1) := by decide +kernel
theorem dX9_readLine_115 : decode cX9_readLine 115 = .ok (.getfield 75, 3) := by decide +kernel
theorem dX9_readLine_118 : decode cX9_readLine 118 = .ok (.ifCond .le 4, 3) := by decide +kernel
theorem dX9_readLine_121 : decode cX9_readLine 121 = .ok (.return_, 1) := by decide +kernel
theorem dX9_readLine_122 : decode cX9_readLine 122 = .ok (.iload_n 1, 1) := by decide +kernel
theorem dX9_readLine_123 : decode cX9_readLine 123 = .ok (.ifCond .ne 10, 3) := by decide +kernel
theorem dX9_readLine_126 : decode cX9_readLine 126 = .ok (.aload_n 0, 1) := by decide +kernel
theorem dX9_readLine_127 : decode cX9_readLine 127 = .ok (.invokevirtual 134, 3) := by decide +kernel
theorem dX9_readLine_130 : decode cX9_readLine 130 = .ok (.goto 93, 3) := by decide +kernel
theorem dX9_readLine_133 : decode cX9_readLine 133 = .ok (.iload_n 1, 1) := by decide +kernel
theorem dX9_readLine_134 : decode cX9_readLine 134 = .ok (.iconst 3, 1) := by decide +kernel
theorem dX9_readLine_135 : decode cX9_readLine 135 = .ok (.if_icmp .ne 10, 3) := by decide +kernel
theorem dX9_readLine_138 : decode cX9_readLine 138 = .ok (.aload_n 0, 1) := by decide +kernel
theorem dX9_readLine_139 : decode cX9_readLine 139 = .ok (.invokevirtual 137, 3) := by decide +kernel
theorem dX9_readLine_142 : decode cX9_readLine 142 = .ok (.goto 81, 3) := by decide +kernel
theorem dX9_readLine_145 : decode cX9_readLine 145 = .ok (.iload_n 1, 1) := by decide +kernel
theorem dX9_readLine_146 : decode cX9_readLine 146 = .ok (.iconst 2, 1) := by decide +kernel
theorem dX9_readLine_147 : decode cX9_readLine 147 = .ok (.if_icmp .ne 21, 3) := by decide +kernel
theorem dX9_readLine_150 : decode cX9_readLine 150 = .ok (.aload_n 0, 1) := by decide +kernel
theorem dX9_readLine_151 : decode cX9_readLine 151 = .ok (.iconst 1, 1) := by decide +kernel
theorem dX9_readLine_152 : decode cX9_readLine 152 = .ok (.putfield 53, 3) := by decide +kernel
theorem dX9_readLine_155 : decode cX9_readLine 155 = .ok (.aload_n 0, 1) := by decide +kernel
theorem dX9_readLine_156 : decode cX9_readLine 156 = .ok (.aload_n 0, 1) := by decide +kernel
theorem dX9_readLine_157 : decode cX9_readLine 157 = .ok (.iconst 0, 1) := by decide +kernel
theorem dX9_readLine_158 : decode cX9_readLine 158 = .ok (.iconst 3, 1) := by decide +kernel
theorem dX9_readLine_159 : decode cX9_readLine 159 = .ok (.invokevirtual 128, 3) := by decide +kernel
theorem dX9_readLine_162 : decode cX9_readLine 162 = .ok (.putfield 49, 3) := by decide +kernel
theorem dX9_readLine_165 : decode cX9_readLine 165 = .ok (.goto 58, 3) := by decide +kernel
theorem dX9_readLine_168 : decode cX9_readLine 168 = .ok (.aload_n 0, 1) := by decide +kernel
theorem dX9_readLine_169 : decode cX9_readLine 169 = .ok (.iconst 1, 1) := by decide +kernel
theorem dX9_readLine_170 : decode cX9_readLine 170 = .ok (.putfield 57, 3) := by decide +kernel
theorem dX9_readLine_173 : decode cX9_readLine 173 = .ok (.aload_n 0, 1) := by decide +kernel
theorem dX9_readLine_174 : decode cX9_readLine 174 = .ok (.getfield 17, 3) := by decide +kernel
theorem dX9_readLine_177 : decode cX9_readLine 177 = .ok (.bipush 68, 2) := by decide +kernel
theorem dX9_readLine_179 : decode cX9_readLine 179 = .ok (.aload_n 0, 1) := by decide +kernel
theorem dX9_readLine_180 : decode cX9_readLine 180 = .ok (.iconst 0, 1) := by decide +kernel
theorem dX9_readLine_181 : decode cX9_readLine 181 = .ok (.bipush 8, 2) := by decide +kernel
theorem dX9_readLine_183 : decode cX9_readLine 183 = .ok (.invokevirtual 128, 3) := by decide +kernel
theorem dX9_readLine_186 : decode cX9_readLine 186 = .ok (.iastore, 1) := by decide +kernel
theorem dX9_readLine_187 : decode cX9_readLine 187 = .ok (.aload_n 0, 1) := by decide +kernel
theorem dX9_readLine_188 : decode cX9_readLine 188 = .ok (.getfield 17, 3) := by decide +kernel
theorem dX9_readLine_191 : decode cX9_readLine 191 = .ok (.bipush 69, 2) := by decide +kernel
theorem dX9_readLine_193 : decode cX9_readLine 193 = .ok (.aload_n 0, 1) := by decide +kernel
theorem dX9_readLine_194 : decode cX9_readLine 194 = .ok (.iconst 0, 1) := by decide +kernel
theorem dX9_readLine_195 : decode cX9_readLine 195 = .ok (.sipush 365, 3) := by decide +kernel
theorem dX9_readLine_198 : decode cX9_readLine 198 = .ok (.invokevirtual 128, 3) := by decide +kernel
theorem dX9_readLine_201 : decode cX9_readLine 201 = .ok (.iastore, 1) := by decide +kernel
theorem dX9_readLine_202 : decode cX9_readLine 202 = .ok (.aload_n 0, 1) := by decide +kernel
theorem dX9_readLine_203 : decode cX9_readLine 203 = .ok (.getfield 17, 3) := by decide +kernel
theorem dX9_readLine_206 : decode cX9_readLine 206 = .ok (.bipush 70, 2) := by decide +kernel
theorem dX9_readLine_208 : decode cX9_readLine 208 = .ok (.aload_n 0, 1) := by decide +kernel
theorem dX9_readLine_209 : decode cX9_readLine 209 = .ok (.aload_n 0, 1) := by decide +kernel
theorem dX9_readLine_210 : decode cX9_readLine 210 = .ok (.getfield 17, 3) := by decide +kernel
theorem dX9_readLine_213 : decode cX9_readLine 213 = .ok (.bipush 69, 2) := by decide +kernel
theorem dX9_readLine_215 : decode cX9_readLine 215 = .ok (.iaload, 1) := by decide +kernel
theorem dX9_readLine_216 : decode cX9_readLine 216 = .ok (.sipush 365, 3) := by decide +kernel
theorem dX9_readLine_219 : decode cX9_readLine 219 = .ok (.invokevirtual 128, 3) := by decide +kernel
theorem dX9_readLine_222 : decode cX9_readLine 222 = .ok (.iastore, 1) := by decide +kernel
theorem dX9_readLine_223 : decode cX9_readLine 223 = .ok (.aload_n 0, 1) := by decide +kernel
theorem dX9_readLine_224 : decode cX9_readLine 224 = .ok (.getfield 75, 3) := by decide +kernel
theorem dX9_readLine_227 : decode cX9_readLine 227 = .ok (.ifCond .ne 21, 3) := by decide +kernel
theorem dX9_readLine_230 : decode cX9_readLine 230 = .ok (.aload_n 0, 1) := by decide +kernel
theorem dX9_readLine_231 : decode cX9_readLine 231 = .ok (.aload_n 0, 1) := by decide +kernel
theorem dX9_readLine_232 : decode cX9_readLine 232 = .ok (.getfield 99, 3) := by decide +kernel
theorem dX9_readLine_235 : decode cX9_readLine 235 = .ok (.iconst 3, 1) := by decide +kernel
theorem dX9_readLine_236 : decode cX9_readLine 236 = .ok (.if_icmp .ne 7, 3) := by decide +kernel
theorem dX9_readLine_239 : decode cX9_readLine 239 = .ok (.iconst 1, 1) := by decide +kernel
theorem dX9_readLine_240 : decode cX9_readLine 240 = .ok (.goto 4, 3) := by decide +kernel
theorem dX9_readLine_243 : decode cX9_readLine 243 = .ok (.iconst 0, 1) := by decide +kernel
theorem dX9_readLine_244 : decode cX9_readLine 244 = .ok (.iconst 2, 1) := by decide +kernel
theorem dX9_readLine_245 : decode cX9_readLine 245 = .ok (.invokevirtual 113, 3) := by decide +kernel
theorem dX9_readLine_248 : decode cX9_readLine 248 = .ok (.aload_n 0, 1) := by decide +kernel
theorem dX9_readLine_249 : decode cX9_readLine 249 = .ok (.invokevirtual 121, 3) := by decide +kernel
theorem dX9_readLine_252 : decode cX9_readLine 252 = .ok (.return_, 1) := by decide +kernel
theorem dX9_text_0 : decode cX9_text 0 = .ok (.iconst 0, 1) := by decide +kernel
theorem dX9_text_1 : decode cX9_text 1 = .ok (.istore_n 1, 1) := by decide +kernel
theorem dX9_text_2 : decode cX9_text 2 = .ok (.aload_n 0, 1) := by decide +kernel
theorem dX9_text_3 : decode cX9_text 3 = .ok (.iconst 0, 1) := by decide +kernel
theorem dX9_text_4 : decode cX9_text 4 = .ok (.putfield 75, 3) := by decide +kernel
theorem dX9_text_7 : decode cX9_text 7 = .ok (.aload_n 0, 1) := by decide +kernel
theorem dX9_text_8 : decode cX9_text 8 = .ok (.iconst 0, 1) := by decide +kernel
theorem dX9_text_9 : decode cX9_text 9 = .ok (.putfield 84, 3) := by decide +kernel
theorem dX9_text_12 : decode cX9_text 12 = .ok (.aload_n 0, 1) := by decide +kernel
theorem dX9_text_13 : decode cX9_text 13 = .ok (.invokevirtual 43, 3) := by decide +kernel
theorem dX9_text_16 : decode cX9_text 16 = .ok (.aload_n 0, 1) := by decide +kernel
theorem dX9_text_17 : decode cX9_text 17 = .ok (.invokevirtual 121, 3) := by decide +kernel
theorem dX9_text_20 : decode cX9_text 20 = .ok (.aload_n 0, 1) := by decide +kernel
theorem dX9_text_21 : decode cX9_text 21 = .ok (.getfield 75, 3) := by decide +kernel
theorem dX9_text_24 : decode cX9_text 24 = .ok (.ifCond .ne 20, 3) := by decide +kernel
theorem dX9_text_27 : decode cX9_text 27 = .ok (.aload_n 0, 1) := by decide +kernel
theorem dX9_text_28 : decode cX9_text 28 = .ok (.getfield 99, 3) := by decide +kernel
theorem dX9_text_31 : decode cX9_text 31 = .ok (.ifCond .eq 13, 3) := by decide +kernel
theorem dX9_text_34 : decode cX9_text 34 = .ok (.aload_n 0, 1) := by decide +kernel
theorem dX9_text_35 : decode cX9_text 35 = .ok (.invokevirtual 140, 3) := by decide +kernel
theorem dX9_text_38 : decode cX9_text 38 = .ok (.iinc 1 1, 3) := by decide +kernel
theorem dX9_text_41 : decode cX9_text 41 = .ok (.goto (-21), 3) := by decide +kernel
theorem dX9_text_44 : decode cX9_text 44 = .ok (.aload_n 0, 1) := by decide +kernel
theorem dX9_text_45 : decode cX9_text 45 = .ok (.getfield 75, 3) := by decide +kernel
theorem dX9_text_48 : decode cX9_text 48 = .ok (.ifCond .ne 27, 3) := by decide +kernel
theorem dX9_text_51 : decode cX9_text 51 = .ok (.aload_n 0, 1) := by decide +kernel
theorem dX9_text_52 : decode cX9_text 52 = .ok (.aload_n 0, 1) := by decide +kernel
theorem dX9_text_53 : decode cX9_text 53 = .ok (.getfield 60, 3) := by decide +kernel
theorem dX9_text_56 : decode cX9_text 56 = .ok (.aload_n 0, 1) := by decide +kernel
theorem dX9_text_57 : decode cX9_text 57 = .ok (.getfield 17, 3) := by decide +kernel
theorem dX9_text_60 : decode cX9_text 60 = .ok (.iconst 0, 1) := by decide +kernel
theorem dX9_text_61 : decode cX9_text 61 = .ok (.iaload, 1) := by decide +kernel
theorem dX9_text_62 : decode cX9_text 62 = .ok (.if_icmp .ge 7, 3) := by decide +kernel
theorem dX9_text_65 : decode cX9_text 65 = .ok (.iconst 1, 1) := by decide +kernel
theorem dX9_text_66 : decode cX9_text 66 = .ok (.goto 4, 3) := by decide +kernel
theorem dX9_text_69 : decode cX9_text 69 = .ok (.iconst 0, 1) := by decide +kernel
theorem dX9_text_70 : decode cX9_text 70 = .ok (.bipush 6, 2) := by decide +kernel
theorem dX9_text_72 : decode cX9_text 72 = .ok (.invokevirtual 113, 3) := by decide +kernel
theorem dX9_text_75 : decode cX9_text 75 = .ok (.aload_n 0, 1) := by decide +kernel
theorem dX9_text_76 : decode cX9_text 76 = .ok (.iconst 0, 1) := by decide +kernel
theorem dX9_text_77 : decode cX9_text 77 = .ok (.putfield 66, 3) := by decide +kernel
theorem dX9_text_80 : decode cX9_text 80 = .ok (.aload_n 0, 1) := by decide +kernel
theorem dX9_text_81 : decode cX9_text 81 = .ok (.getfield 75, 3) := by decide +kernel
theorem dX9_text_84 : decode cX9_text 84 = .ok (.ifCond .le 11, 3) := by decide +kernel
theorem dX9_text_87 : decode cX9_text 87 = .ok (.bipush (-10), 2) := by decide +kernel
theorem dX9_text_89 : decode cX9_text 89 = .ok (.aload_n 0, 1) := by decide +kernel
theorem dX9_text_90 : decode cX9_text 90 = .ok (.getfield 81, 3) := by decide +kernel
theorem dX9_text_93 : decode cX9_text 93 = .ok (.isub, 1) := by decide +kernel
theorem dX9_text_94 : decode cX9_text 94 = .ok (.ireturn, 1) := by decide +kernel
theorem dX9_text_95 : decode cX9_text 95 = .ok (.aload_n 0, 1) := by decide +kernel
theorem dX9_text_96 : decode cX9_text 96 = .ok (.invokevirtual 46, 3) := by decide +kernel
theorem dX9_text_99 : decode cX9_text 99 = .ok (.iload_n 1, 1) := by decide +kernel
theorem dX9_text_100 : decode cX9_text 100 = .ok (.ireturn, 1) := by decide +kernel
theorem dX9_fault_0 : decode cX9_fault 0 = .ok (.aload_n 0, 1) := by decide +kernel
theorem dX9_fault_1 : decode cX9_fault 1 = .ok (.getfield 75, 3) := by decide +kernel
theorem dX9_fault_4 : decode cX9_fault 4 = .ok (.ireturn, 1) := by decide +kernel
theorem dX9_rule_0 : decode cX9_rule 0 = .ok (.iload_n 1, 1) := by decide +kernel
theorem dX9_rule_1 : decode cX9_rule 1 = .ok (.tableswitch 71 0 5 #[39, 46, 46, 46, 58, 63], 39) := by decide +kernel
theorem dX9_rule_40 : decode cX9_rule 40 = .ok (.aload_n 0, 1) := by decide +kernel
theorem dX9_rule_41 : decode cX9_rule 41 = .ok (.getfield 7, 3) := by decide +kernel
theorem dX9_rule_44 : decode cX9_rule 44 = .ok (.iconst 0, 1) := by decide +kernel
theorem dX9_rule_45 : decode cX9_rule 45 = .ok (.iaload, 1) := by decide +kernel
theorem dX9_rule_46 : decode cX9_rule 46 = .ok (.ireturn, 1) := by decide +kernel
theorem dX9_rule_47 : decode cX9_rule 47 = .ok (.aload_n 0, 1) := by decide +kernel
theorem dX9_rule_48 : decode cX9_rule 48 = .ok (.getfield 7, 3) := by decide +kernel
theorem dX9_rule_51 : decode cX9_rule 51 = .ok (.bipush 68, 2) := by decide +kernel
theorem dX9_rule_53 : decode cX9_rule 53 = .ok (.iload_n 1, 1) := by decide +kernel
theorem dX9_rule_54 : decode cX9_rule 54 = .ok (.iadd, 1) := by decide +kernel
theorem dX9_rule_55 : decode cX9_rule 55 = .ok (.iconst 1, 1) := by decide +kernel
theorem dX9_rule_56 : decode cX9_rule 56 = .ok (.isub, 1) := by decide +kernel
theorem dX9_rule_57 : decode cX9_rule 57 = .ok (.iaload, 1) := by decide +kernel
theorem dX9_rule_58 : decode cX9_rule 58 = .ok (.ireturn, 1) := by decide +kernel
theorem dX9_rule_59 : decode cX9_rule 59 = .ok (.aload_n 0, 1) := by decide +kernel
theorem dX9_rule_60 : decode cX9_rule 60 = .ok (.getfield 63, 3) := by decide +kernel
theorem dX9_rule_63 : decode cX9_rule 63 = .ok (.ireturn, 1) := by decide +kernel
theorem dX9_rule_64 : decode cX9_rule 64 = .ok (.aload_n 0, 1) := by decide +kernel
theorem dX9_rule_65 : decode cX9_rule 65 = .ok (.getfield 7, 3) := by decide +kernel
theorem dX9_rule_68 : decode cX9_rule 68 = .ok (.bipush 37, 2) := by decide +kernel
theorem dX9_rule_70 : decode cX9_rule 70 = .ok (.iaload, 1) := by decide +kernel
theorem dX9_rule_71 : decode cX9_rule 71 = .ok (.ireturn, 1) := by decide +kernel
theorem dX9_rule_72 : decode cX9_rule 72 = .ok (.iconst (-1), 1) := by decide +kernel
theorem dX9_rule_73 : decode cX9_rule 73 = .ok (.ireturn, 1) := by decide +kernel
theorem dX9_isFigure_0 : decode cX9_isFigure 0 = .ok (.iload_n 1, 1) := by decide +kernel
theorem dX9_isFigure_1 : decode cX9_isFigure 1 = .ok (.i2l, 1) := by decide +kernel
theorem dX9_isFigure_2 : decode cX9_isFigure 2 = .ok (.lconst 0, 1) := by decide +kernel
theorem dX9_isFigure_3 : decode cX9_isFigure 3 = .ok (.aload_n 0, 1) := by decide +kernel
theorem dX9_isFigure_4 : decode cX9_isFigure 4 = .ok (.getfield 7, 3) := by decide +kernel
theorem dX9_isFigure_7 : decode cX9_isFigure 7 = .ok (.iconst 0, 1) := by decide +kernel
theorem dX9_isFigure_8 : decode cX9_isFigure 8 = .ok (.iaload, 1) := by decide +kernel
theorem dX9_isFigure_9 : decode cX9_isFigure 9 = .ok (.iconst 1, 1) := by decide +kernel
theorem dX9_isFigure_10 : decode cX9_isFigure 10 = .ok (.isub, 1) := by decide +kernel
theorem dX9_isFigure_11 : decode cX9_isFigure 11 = .ok (.i2l, 1) := by decide +kernel
theorem dX9_isFigure_12 : decode cX9_isFigure 12 = .ok (.invokestatic 71, 3) := by decide +kernel
theorem dX9_isFigure_15 : decode cX9_isFigure 15 = .ok (.ireturn, 1) := by decide +kernel
theorem dX9_of_0 : decode cX9_of 0 = .ok (.aload_n 0, 1) := by decide +kernel
theorem dX9_of_1 : decode cX9_of 1 = .ok (.getfield 7, 3) := by decide +kernel
theorem dX9_of_4 : decode cX9_of 4 = .ok (.iconst 1, 1) := by decide +kernel
theorem dX9_of_5 : decode cX9_of 5 = .ok (.bipush 6, 2) := by decide +kernel
theorem dX9_of_7 : decode cX9_of 7 = .ok (.iload_n 1, 1) := by decide +kernel
theorem dX9_of_8 : decode cX9_of 8 = .ok (.imul, 1) := by decide +kernel
theorem dX9_of_9 : decode cX9_of 9 = .ok (.iadd, 1) := by decide +kernel
theorem dX9_of_10 : decode cX9_of 10 = .ok (.iload_n 2, 1) := by decide +kernel
theorem dX9_of_11 : decode cX9_of 11 = .ok (.iadd, 1) := by decide +kernel
theorem dX9_of_12 : decode cX9_of 12 = .ok (.iaload, 1) := by decide +kernel
theorem dX9_of_13 : decode cX9_of 13 = .ok (.ireturn, 1) := by decide +kernel
theorem dX9_roundOf_0 : decode cX9_roundOf 0 = .ok (.aload_n 0, 1) := by decide +kernel
theorem dX9_roundOf_1 : decode cX9_roundOf 1 = .ok (.iload_n 1, 1) := by decide +kernel
theorem dX9_roundOf_2 : decode cX9_roundOf 2 = .ok (.iconst 0, 1) := by decide +kernel
theorem dX9_roundOf_3 : decode cX9_roundOf 3 = .ok (.invokevirtual 143, 3) := by decide +kernel
theorem dX9_roundOf_6 : decode cX9_roundOf 6 = .ok (.iconst 2, 1) := by decide +kernel
theorem dX9_roundOf_7 : decode cX9_roundOf 7 = .ok (.irem, 1) := by decide +kernel
theorem dX9_roundOf_8 : decode cX9_roundOf 8 = .ok (.iconst 1, 1) := by decide +kernel
theorem dX9_roundOf_9 : decode cX9_roundOf 9 = .ok (.if_icmp .ne 21, 3) := by decide +kernel
theorem dX9_roundOf_12 : decode cX9_roundOf 12 = .ok (.aload_n 0, 1) := by decide +kernel
theorem dX9_roundOf_13 : decode cX9_roundOf 13 = .ok (.iload_n 1, 1) := by decide +kernel
theorem dX9_roundOf_14 : decode cX9_roundOf 14 = .ok (.iconst 4, 1) := by decide +kernel
theorem dX9_roundOf_15 : decode cX9_roundOf 15 = .ok (.invokevirtual 143, 3) := by decide +kernel
theorem dX9_roundOf_18 : decode cX9_roundOf 18 = .ok (.aload_n 0, 1) := by decide +kernel
theorem dX9_roundOf_19 : decode cX9_roundOf 19 = .ok (.iload_n 1, 1) := by decide +kernel
theorem dX9_roundOf_20 : decode cX9_roundOf 20 = .ok (.iconst 1, 1) := by decide +kernel
theorem dX9_roundOf_21 : decode cX9_roundOf 21 = .ok (.invokevirtual 143, 3) := by decide +kernel
theorem dX9_roundOf_24 : decode cX9_roundOf 24 = .ok (.imul, 1) := by decide +kernel
theorem dX9_roundOf_25 : decode cX9_roundOf 25 = .ok (.iconst 1, 1) := by decide +kernel
theorem dX9_roundOf_26 : decode cX9_roundOf 26 = .ok (.iadd, 1) := by decide +kernel
theorem dX9_roundOf_27 : decode cX9_roundOf 27 = .ok (.goto 9, 3) := by decide +kernel
theorem dX9_roundOf_30 : decode cX9_roundOf 30 = .ok (.aload_n 0, 1) := by decide +kernel
theorem dX9_roundOf_31 : decode cX9_roundOf 31 = .ok (.iload_n 1, 1) := by decide +kernel
theorem dX9_roundOf_32 : decode cX9_roundOf 32 = .ok (.iconst 1, 1) := by decide +kernel
theorem dX9_roundOf_33 : decode cX9_roundOf 33 = .ok (.invokevirtual 143, 3) := by decide +kernel
theorem dX9_roundOf_36 : decode cX9_roundOf 36 = .ok (.ireturn, 1) := by decide +kernel
theorem dX9_figure_0 : decode cX9_figure 0 = .ok (.aload_n 0, 1) := by decide +kernel
theorem dX9_figure_1 : decode cX9_figure 1 = .ok (.iload_n 1, 1) := by decide +kernel
theorem dX9_figure_2 : decode cX9_figure 2 = .ok (.invokevirtual 146, 3) := by decide +kernel
theorem dX9_figure_5 : decode cX9_figure 5 = .ok (.ifCond .ne 7, 3) := by decide +kernel
theorem dX9_figure_8 : decode cX9_figure 8 = .ok (.iconst (-1), 1) := by decide +kernel
theorem dX9_figure_9 : decode cX9_figure 9 = .ok (.goto 39, 3) := by decide +kernel
theorem dX9_figure_12 : decode cX9_figure 12 = .ok (.iload_n 2, 1) := by decide +kernel
theorem dX9_figure_13 : decode cX9_figure 13 = .ok (.i2l, 1) := by decide +kernel
theorem dX9_figure_14 : decode cX9_figure 14 = .ok (.lconst 0, 1) := by decide +kernel
theorem dX9_figure_15 : decode cX9_figure 15 = .ok (.ldc2_w 150, 3) := by decide +kernel
theorem dX9_figure_18 : decode cX9_figure 18 = .ok (.invokestatic 71, 3) := by decide +kernel
theorem dX9_figure_21 : decode cX9_figure 21 = .ok (.ifCond .eq 12, 3) := by decide +kernel
theorem dX9_figure_24 : decode cX9_figure 24 = .ok (.aload_n 0, 1) := by decide +kernel
theorem dX9_figure_25 : decode cX9_figure 25 = .ok (.iload_n 1, 1) := by decide +kernel
theorem dX9_figure_26 : decode cX9_figure 26 = .ok (.iload_n 2, 1) := by decide +kernel
theorem dX9_figure_27 : decode cX9_figure 27 = .ok (.invokevirtual 143, 3) := by decide +kernel
theorem dX9_figure_30 : decode cX9_figure 30 = .ok (.goto 18, 3) := by decide +kernel
theorem dX9_figure_33 : decode cX9_figure 33 = .ok (.iload_n 2, 1) := by decide +kernel
theorem dX9_figure_34 : decode cX9_figure 34 = .ok (.bipush 6, 2) := by decide +kernel
theorem dX9_figure_36 : decode cX9_figure 36 = .ok (.if_icmp .ne 11, 3) := by decide +kernel
theorem dX9_figure_39 : decode cX9_figure 39 = .ok (.aload_n 0, 1) := by decide +kernel
theorem dX9_figure_40 : decode cX9_figure 40 = .ok (.iload_n 1, 1) := by decide +kernel
theorem dX9_figure_41 : decode cX9_figure 41 = .ok (.invokevirtual 152, 3) := by decide +kernel
theorem dX9_figure_44 : decode cX9_figure 44 = .ok (.goto 4, 3) := by decide +kernel
theorem dX9_figure_47 : decode cX9_figure 47 = .ok (.iconst (-1), 1) := by decide +kernel
theorem dX9_figure_48 : decode cX9_figure 48 = .ok (.ireturn, 1) := by decide +kernel
theorem dX9_vote_0 : decode cX9_vote 0 = .ok (.iload_n 1, 1) := by decide +kernel
theorem dX9_vote_1 : decode cX9_vote 1 = .ok (.i2l, 1) := by decide +kernel
theorem dX9_vote_2 : decode cX9_vote 2 = .ok (.lconst 0, 1) := by decide +kernel
theorem dX9_vote_3 : decode cX9_vote 3 = .ok (.aload_n 0, 1) := by decide +kernel
theorem dX9_vote_4 : decode cX9_vote 4 = .ok (.getfield 7, 3) := by decide +kernel
theorem dX9_vote_7 : decode cX9_vote 7 = .ok (.bipush 37, 2) := by decide +kernel
theorem dX9_vote_9 : decode cX9_vote 9 = .ok (.iaload, 1) := by decide +kernel
theorem dX9_vote_10 : decode cX9_vote 10 = .ok (.iconst 1, 1) := by decide +kernel
theorem dX9_vote_11 : decode cX9_vote 11 = .ok (.isub, 1) := by decide +kernel
theorem dX9_vote_12 : decode cX9_vote 12 = .ok (.i2l, 1) := by decide +kernel
theorem dX9_vote_13 : decode cX9_vote 13 = .ok (.invokestatic 71, 3) := by decide +kernel
theorem dX9_vote_16 : decode cX9_vote 16 = .ok (.ifCond .eq 31, 3) := by decide +kernel
theorem dX9_vote_19 : decode cX9_vote 19 = .ok (.iload_n 2, 1) := by decide +kernel
theorem dX9_vote_20 : decode cX9_vote 20 = .ok (.i2l, 1) := by decide +kernel
theorem dX9_vote_21 : decode cX9_vote 21 = .ok (.lconst 0, 1) := by decide +kernel
theorem dX9_vote_22 : decode cX9_vote 22 = .ok (.ldc2_w 155, 3) := by decide +kernel
theorem dX9_vote_25 : decode cX9_vote 25 = .ok (.invokestatic 71, 3) := by decide +kernel
theorem dX9_vote_28 : decode cX9_vote 28 = .ok (.ifCond .eq 19, 3) := by decide +kernel
theorem dX9_vote_31 : decode cX9_vote 31 = .ok (.aload_n 0, 1) := by decide +kernel
theorem dX9_vote_32 : decode cX9_vote 32 = .ok (.getfield 7, 3) := by decide +kernel
theorem dX9_vote_35 : decode cX9_vote 35 = .ok (.bipush 38, 2) := by decide +kernel
theorem dX9_vote_37 : decode cX9_vote 37 = .ok (.iconst 5, 1) := by decide +kernel
theorem dX9_vote_38 : decode cX9_vote 38 = .ok (.iload_n 1, 1) := by decide +kernel
theorem dX9_vote_39 : decode cX9_vote 39 = .ok (.imul, 1) := by decide +kernel
theorem dX9_vote_40 : decode cX9_vote 40 = .ok (.iadd, 1) := by decide +kernel
theorem dX9_vote_41 : decode cX9_vote 41 = .ok (.iload_n 2, 1) := by decide +kernel
theorem dX9_vote_42 : decode cX9_vote 42 = .ok (.iadd, 1) := by decide +kernel
theorem dX9_vote_43 : decode cX9_vote 43 = .ok (.iaload, 1) := by decide +kernel
theorem dX9_vote_44 : decode cX9_vote 44 = .ok (.goto 4, 3) := by decide +kernel
theorem dX9_vote_47 : decode cX9_vote 47 = .ok (.iconst (-1), 1) := by decide +kernel
theorem dX9_vote_48 : decode cX9_vote 48 = .ok (.ireturn, 1) := by decide +kernel
theorem dX9_timesOf_0 : decode cX9_timesOf 0 = .ok (.aload_n 0, 1) := by decide +kernel
theorem dX9_timesOf_1 : decode cX9_timesOf 1 = .ok (.iload_n 1, 1) := by decide +kernel
theorem dX9_timesOf_2 : decode cX9_timesOf 2 = .ok (.iconst 0, 1) := by decide +kernel
theorem dX9_timesOf_3 : decode cX9_timesOf 3 = .ok (.invokevirtual 143, 3) := by decide +kernel
theorem dX9_timesOf_6 : decode cX9_timesOf 6 = .ok (.iconst 2, 1) := by decide +kernel
theorem dX9_timesOf_7 : decode cX9_timesOf 7 = .ok (.irem, 1) := by decide +kernel
theorem dX9_timesOf_8 : decode cX9_timesOf 8 = .ok (.iconst 1, 1) := by decide +kernel
theorem dX9_timesOf_9 : decode cX9_timesOf 9 = .ok (.if_icmp .ne 12, 3) := by decide +kernel
theorem dX9_timesOf_12 : decode cX9_timesOf 12 = .ok (.aload_n 0, 1) := by decide +kernel
theorem dX9_timesOf_13 : decode cX9_timesOf 13 = .ok (.iload_n 1, 1) := by decide +kernel
theorem dX9_timesOf_14 : decode cX9_timesOf 14 = .ok (.iconst 4, 1) := by decide +kernel
theorem dX9_timesOf_15 : decode cX9_timesOf 15 = .ok (.invokevirtual 143, 3) := by decide +kernel
theorem dX9_timesOf_18 : decode cX9_timesOf 18 = .ok (.goto 4, 3) := by decide +kernel
theorem dX9_timesOf_21 : decode cX9_timesOf 21 = .ok (.iconst 1, 1) := by decide +kernel
theorem dX9_timesOf_22 : decode cX9_timesOf 22 = .ok (.aload_n 0, 1) := by decide +kernel
theorem dX9_timesOf_23 : decode cX9_timesOf 23 = .ok (.iload_n 1, 1) := by decide +kernel
theorem dX9_timesOf_24 : decode cX9_timesOf 24 = .ok (.iconst 0, 1) := by decide +kernel
theorem dX9_timesOf_25 : decode cX9_timesOf 25 = .ok (.invokevirtual 143, 3) := by decide +kernel
theorem dX9_timesOf_28 : decode cX9_timesOf 28 = .ok (.iconst 1, 1) := by decide +kernel
theorem dX9_timesOf_29 : decode cX9_timesOf 29 = .ok (.if_icmp .le 7, 3) := by decide +kernel
theorem dX9_timesOf_32 : decode cX9_timesOf 32 = .ok (.iconst 2, 1) := by decide +kernel
theorem dX9_timesOf_33 : decode cX9_timesOf 33 = .ok (.goto 4, 3) := by decide +kernel
theorem dX9_timesOf_36 : decode cX9_timesOf 36 = .ok (.iconst 1, 1) := by decide +kernel
theorem dX9_timesOf_37 : decode cX9_timesOf 37 = .ok (.imul, 1) := by decide +kernel
theorem dX9_timesOf_38 : decode cX9_timesOf 38 = .ok (.ireturn, 1) := by decide +kernel
theorem dX9_restOf_0 : decode cX9_restOf 0 = .ok (.aload_n 0, 1) := by decide +kernel
theorem dX9_restOf_1 : decode cX9_restOf 1 = .ok (.iload_n 1, 1) := by decide +kernel
theorem dX9_restOf_2 : decode cX9_restOf 2 = .ok (.iconst 0, 1) := by decide +kernel
theorem dX9_restOf_3 : decode cX9_restOf 3 = .ok (.invokevirtual 143, 3) := by decide +kernel
theorem dX9_restOf_6 : decode cX9_restOf 6 = .ok (.iconst 2, 1) := by decide +kernel
theorem dX9_restOf_7 : decode cX9_restOf 7 = .ok (.irem, 1) := by decide +kernel
theorem dX9_restOf_8 : decode cX9_restOf 8 = .ok (.iconst 1, 1) := by decide +kernel
theorem dX9_restOf_9 : decode cX9_restOf 9 = .ok (.if_icmp .ne 12, 3) := by decide +kernel
theorem dX9_restOf_12 : decode cX9_restOf 12 = .ok (.aload_n 0, 1) := by decide +kernel
theorem dX9_restOf_13 : decode cX9_restOf 13 = .ok (.iload_n 1, 1) := by decide +kernel
theorem dX9_restOf_14 : decode cX9_restOf 14 = .ok (.iconst 4, 1) := by decide +kernel
theorem dX9_restOf_15 : decode cX9_restOf 15 = .ok (.invokevirtual 143, 3) := by decide +kernel
theorem dX9_restOf_18 : decode cX9_restOf 18 = .ok (.goto 4, 3) := by decide +kernel
theorem dX9_restOf_21 : decode cX9_restOf 21 = .ok (.iconst 1, 1) := by decide +kernel
theorem dX9_restOf_22 : decode cX9_restOf 22 = .ok (.istore_n 3, 1) := by decide +kernel
theorem dX9_restOf_23 : decode cX9_restOf 23 = .ok (.aload_n 0, 1) := by decide +kernel
theorem dX9_restOf_24 : decode cX9_restOf 24 = .ok (.iload_n 1, 1) := by decide +kernel
theorem dX9_restOf_25 : decode cX9_restOf 25 = .ok (.iconst 2, 1) := by decide +kernel
theorem dX9_restOf_26 : decode cX9_restOf 26 = .ok (.invokevirtual 143, 3) := by decide +kernel
theorem dX9_restOf_29 : decode cX9_restOf 29 = .ok (.iload_n 2, 1) := by decide +kernel
theorem dX9_restOf_30 : decode cX9_restOf 30 = .ok (.iload_n 3, 1) := by decide +kernel
theorem dX9_restOf_31 : decode cX9_restOf 31 = .ok (.irem, 1) := by decide +kernel
theorem dX9_restOf_32 : decode cX9_restOf 32 = .ok (.aload_n 0, 1) := by decide +kernel
theorem dX9_restOf_33 : decode cX9_restOf 33 = .ok (.iload_n 1, 1) := by decide +kernel
theorem dX9_restOf_34 : decode cX9_restOf 34 = .ok (.iconst 1, 1) := by decide +kernel
theorem dX9_restOf_35 : decode cX9_restOf 35 = .ok (.invokevirtual 143, 3) := by decide +kernel
theorem dX9_restOf_38 : decode cX9_restOf 38 = .ok (.imul, 1) := by decide +kernel
theorem dX9_restOf_39 : decode cX9_restOf 39 = .ok (.iadd, 1) := by decide +kernel
theorem dX9_restOf_40 : decode cX9_restOf 40 = .ok (.iload_n 2, 1) := by decide +kernel
theorem dX9_restOf_41 : decode cX9_restOf 41 = .ok (.iload_n 3, 1) := by decide +kernel
theorem dX9_restOf_42 : decode cX9_restOf 42 = .ok (.if_icmp .ge 7, 3) := by decide +kernel
theorem dX9_restOf_45 : decode cX9_restOf 45 = .ok (.iconst 0, 1) := by decide +kernel
theorem dX9_restOf_46 : decode cX9_restOf 46 = .ok (.goto 9, 3) := by decide +kernel
theorem dX9_restOf_49 : decode cX9_restOf 49 = .ok (.aload_n 0, 1) := by decide +kernel
theorem dX9_restOf_50 : decode cX9_restOf 50 = .ok (.iload_n 1, 1) := by decide +kernel
theorem dX9_restOf_51 : decode cX9_restOf 51 = .ok (.iconst 5, 1) := by decide +kernel
theorem dX9_restOf_52 : decode cX9_restOf 52 = .ok (.invokevirtual 143, 3) := by decide +kernel
theorem dX9_restOf_55 : decode cX9_restOf 55 = .ok (.iadd, 1) := by decide +kernel
theorem dX9_restOf_56 : decode cX9_restOf 56 = .ok (.istore 4, 2) := by decide +kernel
theorem dX9_restOf_58 : decode cX9_restOf 58 = .ok (.iload 4, 2) := by decide +kernel
theorem dX9_restOf_60 : decode cX9_restOf 60 = .ok (.aload_n 0, 1) := by decide +kernel
theorem dX9_restOf_61 : decode cX9_restOf 61 = .ok (.iload_n 1, 1) := by decide +kernel
theorem dX9_restOf_62 : decode cX9_restOf 62 = .ok (.invokevirtual 152, 3) := by decide +kernel
theorem dX9_restOf_65 : decode cX9_restOf 65 = .ok (.irem, 1) := by decide +kernel
theorem dX9_restOf_66 : decode cX9_restOf 66 = .ok (.ireturn, 1) := by decide +kernel
theorem dX9_isOut_0 : decode cX9_isOut 0 = .ok (.iconst 0, 1) := by decide +kernel
theorem dX9_isOut_1 : decode cX9_isOut 1 = .ok (.istore 4, 2) := by decide +kernel
theorem dX9_isOut_3 : decode cX9_isOut 3 = .ok (.lload_n 2, 1) := by decide +kernel
theorem dX9_isOut_4 : decode cX9_isOut 4 = .ok (.aload_n 0, 1) := by decide +kernel
theorem dX9_isOut_5 : decode cX9_isOut 5 = .ok (.iload_n 1, 1) := by decide +kernel
theorem dX9_isOut_6 : decode cX9_isOut 6 = .ok (.invokevirtual 152, 3) := by decide +kernel
theorem dX9_isOut_9 : decode cX9_isOut 9 = .ok (.i2l, 1) := by decide +kernel
theorem dX9_isOut_10 : decode cX9_isOut 10 = .ok (.lrem, 1) := by decide +kernel
theorem dX9_isOut_11 : decode cX9_isOut 11 = .ok (.l2i, 1) := by decide +kernel
theorem dX9_isOut_12 : decode cX9_isOut 12 = .ok (.istore 5, 2) := by decide +kernel
theorem dX9_isOut_14 : decode cX9_isOut 14 = .ok (.iconst 0, 1) := by decide +kernel
theorem dX9_isOut_15 : decode cX9_isOut 15 = .ok (.istore 6, 2) := by decide +kernel
theorem dX9_isOut_17 : decode cX9_isOut 17 = .ok (.iload 6, 2) := by decide +kernel
theorem dX9_isOut_19 : decode cX9_isOut 19 = .ok (.aload_n 0, 1) := by decide +kernel
theorem dX9_isOut_20 : decode cX9_isOut 20 = .ok (.iload_n 1, 1) := by decide +kernel
theorem dX9_isOut_21 : decode cX9_isOut 21 = .ok (.invokevirtual 157, 3) := by decide +kernel
theorem dX9_isOut_24 : decode cX9_isOut 24 = .ok (.if_icmp .ge 33, 3) := by decide +kernel
theorem dX9_isOut_27 : decode cX9_isOut 27 = .ok (.iload 4, 2) := by decide +kernel
theorem dX9_isOut_29 : decode cX9_isOut 29 = .ok (.ifCond .ne 15, 3) := by decide +kernel
theorem dX9_isOut_32 : decode cX9_isOut 32 = .ok (.aload_n 0, 1) := by decide +kernel
theorem dX9_isOut_33 : decode cX9_isOut 33 = .ok (.iload_n 1, 1) := by decide +kernel
theorem dX9_isOut_34 : decode cX9_isOut 34 = .ok (.iload 6, 2) := by decide +kernel
theorem dX9_isOut_36 : decode cX9_isOut 36 = .ok (.invokevirtual 160, 3) := by decide +kernel
theorem dX9_isOut_39 : decode cX9_isOut 39 = .ok (.iload 5, 2) := by decide +kernel
theorem dX9_isOut_41 : decode cX9_isOut 41 = .ok (.if_icmp .ne 7, 3) := by decide +kernel
theorem dX9_isOut_44 : decode cX9_isOut 44 = .ok (.iconst 1, 1) := by decide +kernel
theorem dX9_isOut_45 : decode cX9_isOut 45 = .ok (.goto 4, 3) := by decide +kernel
theorem dX9_isOut_48 : decode cX9_isOut 48 = .ok (.iconst 0, 1) := by decide +kernel
theorem dX9_isOut_49 : decode cX9_isOut 49 = .ok (.istore 4, 2) := by decide +kernel
theorem dX9_isOut_51 : decode cX9_isOut 51 = .ok (.iinc 6 1, 3) := by decide +kernel
theorem dX9_isOut_54 : decode cX9_isOut 54 = .ok (.goto (-37), 3) := by decide +kernel
theorem dX9_isOut_57 : decode cX9_isOut 57 = .ok (.iload 4, 2) := by decide +kernel
theorem dX9_isOut_59 : decode cX9_isOut 59 = .ok (.ireturn, 1) := by decide +kernel
theorem dX9_isDay_0 : decode cX9_isDay 0 = .ok (.lload_n 0, 1) := by decide +kernel
theorem dX9_isDay_1 : decode cX9_isDay 1 = .ok (.lconst 0, 1) := by decide +kernel
theorem dX9_isDay_2 : decode cX9_isDay 2 = .ok (.ldc2_w 163, 3) := by decide +kernel
theorem dX9_isDay_5 : decode cX9_isDay 5 = .ok (.invokestatic 71, 3) := by decide +kernel
theorem dX9_isDay_8 : decode cX9_isDay 8 = .ok (.ireturn, 1) := by decide +kernel
theorem dX9_out_0 : decode cX9_out 0 = .ok (.aload_n 0, 1) := by decide +kernel
theorem dX9_out_1 : decode cX9_out 1 = .ok (.iload_n 1, 1) := by decide +kernel
theorem dX9_out_2 : decode cX9_out 2 = .ok (.invokevirtual 146, 3) := by decide +kernel
theorem dX9_out_5 : decode cX9_out 5 = .ok (.ifCond .eq 22, 3) := by decide +kernel
theorem dX9_out_8 : decode cX9_out 8 = .ok (.lload_n 2, 1) := by decide +kernel
theorem dX9_out_9 : decode cX9_out 9 = .ok (.invokestatic 165, 3) := by decide +kernel
theorem dX9_out_12 : decode cX9_out 12 = .ok (.ifCond .eq 15, 3) := by decide +kernel
theorem dX9_out_15 : decode cX9_out 15 = .ok (.aload_n 0, 1) := by decide +kernel
theorem dX9_out_16 : decode cX9_out 16 = .ok (.iload_n 1, 1) := by decide +kernel
theorem dX9_out_17 : decode cX9_out 17 = .ok (.lload_n 2, 1) := by decide +kernel
theorem dX9_out_18 : decode cX9_out 18 = .ok (.invokevirtual 169, 3) := by decide +kernel
theorem dX9_out_21 : decode cX9_out 21 = .ok (.invokestatic 173, 3) := by decide +kernel
theorem dX9_out_24 : decode cX9_out 24 = .ok (.goto 4, 3) := by decide +kernel
theorem dX9_out_27 : decode cX9_out 27 = .ok (.iconst (-1), 1) := by decide +kernel
theorem dX9_out_28 : decode cX9_out 28 = .ok (.ireturn, 1) := by decide +kernel
theorem dX9_firstBy_0 : decode cX9_firstBy 0 = .ok (.lload_n 0, 1) := by decide +kernel
theorem dX9_firstBy_1 : decode cX9_firstBy 1 = .ok (.lload_n 2, 1) := by decide +kernel
theorem dX9_firstBy_2 : decode cX9_firstBy 2 = .ok (.lsub, 1) := by decide +kernel
theorem dX9_firstBy_3 : decode cX9_firstBy 3 = .ok (.lload 4, 2) := by decide +kernel
theorem dX9_firstBy_5 : decode cX9_firstBy 5 = .ok (.lrem, 1) := by decide +kernel
theorem dX9_firstBy_6 : decode cX9_firstBy 6 = .ok (.lstore 6, 2) := by decide +kernel
theorem dX9_firstBy_8 : decode cX9_firstBy 8 = .ok (.lload 6, 2) := by decide +kernel
theorem dX9_firstBy_10 : decode cX9_firstBy 10 = .ok (.lconst 0, 1) := by decide +kernel
theorem dX9_firstBy_11 : decode cX9_firstBy 11 = .ok (.lcmp, 1) := by decide +kernel
theorem dX9_firstBy_12 : decode cX9_firstBy 12 = .ok (.ifCond .ge 11, 3) := by decide +kernel
theorem dX9_firstBy_15 : decode cX9_firstBy 15 = .ok (.lload 6, 2) := by decide +kernel
theorem dX9_firstBy_17 : decode cX9_firstBy 17 = .ok (.lload 4, 2) := by decide +kernel
theorem dX9_firstBy_19 : decode cX9_firstBy 19 = .ok (.ladd, 1) := by decide +kernel
theorem dX9_firstBy_20 : decode cX9_firstBy 20 = .ok (.goto 5, 3) := by decide +kernel
theorem dX9_firstBy_23 : decode cX9_firstBy 23 = .ok (.lload 6, 2) := by decide +kernel
theorem dX9_firstBy_25 : decode cX9_firstBy 25 = .ok (.lstore 6, 2) := by decide +kernel
theorem dX9_firstBy_27 : decode cX9_firstBy 27 = .ok (.lload 6, 2) := by decide +kernel
theorem dX9_firstBy_29 : decode cX9_firstBy 29 = .ok (.lconst 0, 1) := by decide +kernel
theorem dX9_firstBy_30 : decode cX9_firstBy 30 = .ok (.lcmp, 1) := by decide +kernel
theorem dX9_firstBy_31 : decode cX9_firstBy 31 = .ok (.ifCond .ne 7, 3) := by decide +kernel
theorem dX9_firstBy_34 : decode cX9_firstBy 34 = .ok (.lload_n 0, 1) := by decide +kernel
theorem dX9_firstBy_35 : decode cX9_firstBy 35 = .ok (.goto 10, 3) := by decide +kernel
theorem dX9_firstBy_38 : decode cX9_firstBy 38 = .ok (.lload_n 0, 1) := by decide +kernel
theorem dX9_firstBy_39 : decode cX9_firstBy 39 = .ok (.lload 4, 2) := by decide +kernel
theorem dX9_firstBy_41 : decode cX9_firstBy 41 = .ok (.ladd, 1) := by decide +kernel
theorem dX9_firstBy_42 : decode cX9_firstBy 42 = .ok (.lload 6, 2) := by decide +kernel
theorem dX9_firstBy_44 : decode cX9_firstBy 44 = .ok (.lsub, 1) := by decide +kernel
theorem dX9_firstBy_45 : decode cX9_firstBy 45 = .ok (.lreturn, 1) := by decide +kernel
theorem dX9_nextOf_0 : decode cX9_nextOf 0 = .ok (.ldc2_w 177, 3) := by decide +kernel
theorem dX9_nextOf_3 : decode cX9_nextOf 3 = .ok (.lstore 4, 2) := by decide +kernel
theorem dX9_nextOf_5 : decode cX9_nextOf 5 = .ok (.iconst 0, 1) := by decide +kernel
theorem dX9_nextOf_6 : decode cX9_nextOf 6 = .ok (.istore 6, 2) := by decide +kernel
theorem dX9_nextOf_8 : decode cX9_nextOf 8 = .ok (.iload 6, 2) := by decide +kernel
theorem dX9_nextOf_10 : decode cX9_nextOf 10 = .ok (.aload_n 0, 1) := by decide +kernel
theorem dX9_nextOf_11 : decode cX9_nextOf 11 = .ok (.iload_n 1, 1) := by decide +kernel
theorem dX9_nextOf_12 : decode cX9_nextOf 12 = .ok (.invokevirtual 157, 3) := by decide +kernel
theorem dX9_nextOf_15 : decode cX9_nextOf 15 = .ok (.if_icmp .ge 53, 3) := by decide +kernel
theorem dX9_nextOf_18 : decode cX9_nextOf 18 = .ok (.lload_n 2, 1) := by decide +kernel
theorem dX9_nextOf_19 : decode cX9_nextOf 19 = .ok (.aload_n 0, 1) := by decide +kernel
theorem dX9_nextOf_20 : decode cX9_nextOf 20 = .ok (.iload_n 1, 1) := by decide +kernel
theorem dX9_nextOf_21 : decode cX9_nextOf 21 = .ok (.iload 6, 2) := by decide +kernel
theorem dX9_nextOf_23 : decode cX9_nextOf 23 = .ok (.invokevirtual 160, 3) := by decide +kernel
theorem dX9_nextOf_26 : decode cX9_nextOf 26 = .ok (.i2l, 1) := by decide +kernel
theorem dX9_nextOf_27 : decode cX9_nextOf 27 = .ok (.aload_n 0, 1) := by decide +kernel
theorem dX9_nextOf_28 : decode cX9_nextOf 28 = .ok (.iload_n 1, 1) := by decide +kernel
theorem dX9_nextOf_29 : decode cX9_nextOf 29 = .ok (.invokevirtual 152, 3) := by decide +kernel
theorem dX9_nextOf_32 : decode cX9_nextOf 32 = .ok (.i2l, 1) := by decide +kernel
theorem dX9_nextOf_33 : decode cX9_nextOf 33 = .ok (.invokestatic 179, 3) := by decide +kernel
theorem dX9_nextOf_36 : decode cX9_nextOf 36 = .ok (.lstore 7, 2) := by decide +kernel
theorem dX9_nextOf_38 : decode cX9_nextOf 38 = .ok (.lload 4, 2) := by decide +kernel
theorem dX9_nextOf_40 : decode cX9_nextOf 40 = .ok (.lconst 0, 1) := by decide +kernel
theorem dX9_nextOf_41 : decode cX9_nextOf 41 = .ok (.lcmp, 1) := by decide +kernel
theorem dX9_nextOf_42 : decode cX9_nextOf 42 = .ok (.ifCond .lt 11, 3) := by decide +kernel
theorem dX9_nextOf_45 : decode cX9_nextOf 45 = .ok (.lload 7, 2) := by decide +kernel
theorem dX9_nextOf_47 : decode cX9_nextOf 47 = .ok (.lload 4, 2) := by decide +kernel
theorem dX9_nextOf_49 : decode cX9_nextOf 49 = .ok (.lcmp, 1) := by decide +kernel
theorem dX9_nextOf_50 : decode cX9_nextOf 50 = .ok (.ifCond .ge 8, 3) := by decide +kernel
theorem dX9_nextOf_53 : decode cX9_nextOf 53 = .ok (.lload 7, 2) := by decide +kernel
theorem dX9_nextOf_55 : decode cX9_nextOf 55 = .ok (.goto 5, 3) := by decide +kernel
theorem dX9_nextOf_58 : decode cX9_nextOf 58 = .ok (.lload 4, 2) := by decide +kernel
theorem dX9_nextOf_60 : decode cX9_nextOf 60 = .ok (.lstore 4, 2) := by decide +kernel
theorem dX9_nextOf_62 : decode cX9_nextOf 62 = .ok (.iinc 6 1, 3) := by decide +kernel
theorem dX9_nextOf_65 : decode cX9_nextOf 65 = .ok (.goto (-57), 3) := by decide +kernel
theorem dX9_nextOf_68 : decode cX9_nextOf 68 = .ok (.lload 4, 2) := by decide +kernel
theorem dX9_nextOf_70 : decode cX9_nextOf 70 = .ok (.lreturn, 1) := by decide +kernel
theorem dX9_toEnd_0 : decode cX9_toEnd 0 = .ok (.lload_n 0, 1) := by decide +kernel
theorem dX9_toEnd_1 : decode cX9_toEnd 1 = .ok (.ldc2_w 163, 3) := by decide +kernel
theorem dX9_toEnd_4 : decode cX9_toEnd 4 = .ok (.lcmp, 1) := by decide +kernel
theorem dX9_toEnd_5 : decode cX9_toEnd 5 = .ok (.ifCond .gt 9, 3) := by decide +kernel
theorem dX9_toEnd_8 : decode cX9_toEnd 8 = .ok (.lload_n 0, 1) := by decide +kernel
theorem dX9_toEnd_9 : decode cX9_toEnd 9 = .ok (.lconst 0, 1) := by decide +kernel
theorem dX9_toEnd_10 : decode cX9_toEnd 10 = .ok (.lcmp, 1) := by decide +kernel
theorem dX9_toEnd_11 : decode cX9_toEnd 11 = .ok (.ifCond .ge 9, 3) := by decide +kernel
theorem dX9_toEnd_14 : decode cX9_toEnd 14 = .ok (.ldc2_w 183, 3) := by decide +kernel
theorem dX9_toEnd_17 : decode cX9_toEnd 17 = .ok (.goto 4, 3) := by decide +kernel
theorem dX9_toEnd_20 : decode cX9_toEnd 20 = .ok (.lload_n 0, 1) := by decide +kernel
theorem dX9_toEnd_21 : decode cX9_toEnd 21 = .ok (.lreturn, 1) := by decide +kernel
theorem dX9_next_0 : decode cX9_next 0 = .ok (.aload_n 0, 1) := by decide +kernel
theorem dX9_next_1 : decode cX9_next 1 = .ok (.iload_n 1, 1) := by decide +kernel
theorem dX9_next_2 : decode cX9_next 2 = .ok (.invokevirtual 146, 3) := by decide +kernel
theorem dX9_next_5 : decode cX9_next 5 = .ok (.ifCond .eq 22, 3) := by decide +kernel
theorem dX9_next_8 : decode cX9_next 8 = .ok (.lload_n 2, 1) := by decide +kernel
theorem dX9_next_9 : decode cX9_next 9 = .ok (.invokestatic 165, 3) := by decide +kernel
theorem dX9_next_12 : decode cX9_next 12 = .ok (.ifCond .eq 15, 3) := by decide +kernel
theorem dX9_next_15 : decode cX9_next 15 = .ok (.aload_n 0, 1) := by decide +kernel
theorem dX9_next_16 : decode cX9_next 16 = .ok (.iload_n 1, 1) := by decide +kernel
theorem dX9_next_17 : decode cX9_next 17 = .ok (.lload_n 2, 1) := by decide +kernel
theorem dX9_next_18 : decode cX9_next 18 = .ok (.invokevirtual 185, 3) := by decide +kernel
theorem dX9_next_21 : decode cX9_next 21 = .ok (.invokestatic 189, 3) := by decide +kernel
theorem dX9_next_24 : decode cX9_next 24 = .ok (.goto 6, 3) := by decide +kernel
theorem dX9_next_27 : decode cX9_next 27 = .ok (.ldc2_w 177, 3) := by decide +kernel
theorem dX9_next_30 : decode cX9_next 30 = .ok (.lreturn, 1) := by decide +kernel
theorem dX9_last_0 : decode cX9_last 0 = .ok (.aload_n 0, 1) := by decide +kernel
theorem dX9_last_1 : decode cX9_last 1 = .ok (.iload_n 1, 1) := by decide +kernel
theorem dX9_last_2 : decode cX9_last 2 = .ok (.invokevirtual 146, 3) := by decide +kernel
theorem dX9_last_5 : decode cX9_last 5 = .ok (.ifCond .eq 10, 3) := by decide +kernel
theorem dX9_last_8 : decode cX9_last 8 = .ok (.lload_n 2, 1) := by decide +kernel
theorem dX9_last_9 : decode cX9_last 9 = .ok (.invokestatic 165, 3) := by decide +kernel
theorem dX9_last_12 : decode cX9_last 12 = .ok (.ifCond .ne 7, 3) := by decide +kernel
theorem dX9_last_15 : decode cX9_last 15 = .ok (.ldc2_w 177, 3) := by decide +kernel
theorem dX9_last_18 : decode cX9_last 18 = .ok (.lreturn, 1) := by decide +kernel
theorem dX9_last_19 : decode cX9_last 19 = .ok (.ldc2_w 183, 3) := by decide +kernel
theorem dX9_last_22 : decode cX9_last 22 = .ok (.lstore 4, 2) := by decide +kernel
theorem dX9_last_24 : decode cX9_last 24 = .ok (.iconst 0, 1) := by decide +kernel
theorem dX9_last_25 : decode cX9_last 25 = .ok (.istore 6, 2) := by decide +kernel
theorem dX9_last_27 : decode cX9_last 27 = .ok (.iload 6, 2) := by decide +kernel
theorem dX9_last_29 : decode cX9_last 29 = .ok (.aload_n 0, 1) := by decide +kernel
theorem dX9_last_30 : decode cX9_last 30 = .ok (.iload_n 1, 1) := by decide +kernel
theorem dX9_last_31 : decode cX9_last 31 = .ok (.invokevirtual 157, 3) := by decide +kernel
theorem dX9_last_34 : decode cX9_last 34 = .ok (.if_icmp .ge 55, 3) := by decide +kernel
theorem dX9_last_37 : decode cX9_last 37 = .ok (.lload_n 2, 1) := by decide +kernel
theorem dX9_last_38 : decode cX9_last 38 = .ok (.lconst 1, 1) := by decide +kernel
theorem dX9_last_39 : decode cX9_last 39 = .ok (.ladd, 1) := by decide +kernel
theorem dX9_last_40 : decode cX9_last 40 = .ok (.aload_n 0, 1) := by decide +kernel
theorem dX9_last_41 : decode cX9_last 41 = .ok (.iload_n 1, 1) := by decide +kernel
theorem dX9_last_42 : decode cX9_last 42 = .ok (.iload 6, 2) := by decide +kernel
theorem dX9_last_44 : decode cX9_last 44 = .ok (.invokevirtual 160, 3) := by decide +kernel
theorem dX9_last_47 : decode cX9_last 47 = .ok (.i2l, 1) := by decide +kernel
theorem dX9_last_48 : decode cX9_last 48 = .ok (.aload_n 0, 1) := by decide +kernel
theorem dX9_last_49 : decode cX9_last 49 = .ok (.iload_n 1, 1) := by decide +kernel
theorem dX9_last_50 : decode cX9_last 50 = .ok (.invokevirtual 152, 3) := by decide +kernel
theorem dX9_last_53 : decode cX9_last 53 = .ok (.i2l, 1) := by decide +kernel
theorem dX9_last_54 : decode cX9_last 54 = .ok (.invokestatic 179, 3) := by decide +kernel
theorem dX9_last_57 : decode cX9_last 57 = .ok (.aload_n 0, 1) := by decide +kernel
theorem dX9_last_58 : decode cX9_last 58 = .ok (.iload_n 1, 1) := by decide +kernel
theorem dX9_last_59 : decode cX9_last 59 = .ok (.invokevirtual 152, 3) := by decide +kernel
theorem dX9_last_62 : decode cX9_last 62 = .ok (.i2l, 1) := by decide +kernel
theorem dX9_last_63 : decode cX9_last 63 = .ok (.lsub, 1) := by decide +kernel
theorem dX9_last_64 : decode cX9_last 64 = .ok (.lstore 7, 2) := by decide +kernel
theorem dX9_last_66 : decode cX9_last 66 = .ok (.lload 7, 2) := by decide +kernel
theorem dX9_last_68 : decode cX9_last 68 = .ok (.lload 4, 2) := by decide +kernel
theorem dX9_last_70 : decode cX9_last 70 = .ok (.lcmp, 1) := by decide +kernel
theorem dX9_last_71 : decode cX9_last 71 = .ok (.ifCond .le 8, 3) := by decide +kernel
theorem dX9_last_74 : decode cX9_last 74 = .ok (.lload 7, 2) := by decide +kernel
theorem dX9_last_76 : decode cX9_last 76 = .ok (.goto 5, 3) := by decide +kernel
theorem dX9_last_79 : decode cX9_last 79 = .ok (.lload 4, 2) := by decide +kernel
theorem dX9_last_81 : decode cX9_last 81 = .ok (.lstore 4, 2) := by decide +kernel
theorem dX9_last_83 : decode cX9_last 83 = .ok (.iinc 6 1, 3) := by decide +kernel
theorem dX9_last_86 : decode cX9_last 86 = .ok (.goto (-59), 3) := by decide +kernel
theorem dX9_last_89 : decode cX9_last 89 = .ok (.lload 4, 2) := by decide +kernel
theorem dX9_last_91 : decode cX9_last 91 = .ok (.invokestatic 189, 3) := by decide +kernel
theorem dX9_last_94 : decode cX9_last 94 = .ok (.lreturn, 1) := by decide +kernel
theorem dX9_upTo_0 : decode cX9_upTo 0 = .ok (.lload_n 0, 1) := by decide +kernel
theorem dX9_upTo_1 : decode cX9_upTo 1 = .ok (.lload_n 2, 1) := by decide +kernel
theorem dX9_upTo_2 : decode cX9_upTo 2 = .ok (.lcmp, 1) := by decide +kernel
theorem dX9_upTo_3 : decode cX9_upTo 3 = .ok (.ifCond .ge 7, 3) := by decide +kernel
theorem dX9_upTo_6 : decode cX9_upTo 6 = .ok (.lconst 0, 1) := by decide +kernel
theorem dX9_upTo_7 : decode cX9_upTo 7 = .ok (.goto 11, 3) := by decide +kernel
theorem dX9_upTo_10 : decode cX9_upTo 10 = .ok (.lload_n 0, 1) := by decide +kernel
theorem dX9_upTo_11 : decode cX9_upTo 11 = .ok (.lload_n 2, 1) := by decide +kernel
theorem dX9_upTo_12 : decode cX9_upTo 12 = .ok (.lsub, 1) := by decide +kernel
theorem dX9_upTo_13 : decode cX9_upTo 13 = .ok (.lload 4, 2) := by decide +kernel
theorem dX9_upTo_15 : decode cX9_upTo 15 = .ok (.ldiv, 1) := by decide +kernel
theorem dX9_upTo_16 : decode cX9_upTo 16 = .ok (.lconst 1, 1) := by decide +kernel
theorem dX9_upTo_17 : decode cX9_upTo 17 = .ok (.ladd, 1) := by decide +kernel
theorem dX9_upTo_18 : decode cX9_upTo 18 = .ok (.lreturn, 1) := by decide +kernel
theorem dX9_manyBy_0 : decode cX9_manyBy 0 = .ok (.lload_n 2, 1) := by decide +kernel
theorem dX9_manyBy_1 : decode cX9_manyBy 1 = .ok (.lload 4, 2) := by decide +kernel
theorem dX9_manyBy_3 : decode cX9_manyBy 3 = .ok (.lload 6, 2) := by decide +kernel
theorem dX9_manyBy_5 : decode cX9_manyBy 5 = .ok (.invokestatic 193, 3) := by decide +kernel
theorem dX9_manyBy_8 : decode cX9_manyBy 8 = .ok (.lload_n 0, 1) := by decide +kernel
theorem dX9_manyBy_9 : decode cX9_manyBy 9 = .ok (.lconst 1, 1) := by decide +kernel
theorem dX9_manyBy_10 : decode cX9_manyBy 10 = .ok (.lsub, 1) := by decide +kernel
theorem dX9_manyBy_11 : decode cX9_manyBy 11 = .ok (.lload 4, 2) := by decide +kernel
theorem dX9_manyBy_13 : decode cX9_manyBy 13 = .ok (.lload 6, 2) := by decide +kernel
theorem dX9_manyBy_15 : decode cX9_manyBy 15 = .ok (.invokestatic 193, 3) := by decide +kernel
theorem dX9_manyBy_18 : decode cX9_manyBy 18 = .ok (.lsub, 1) := by decide +kernel
theorem dX9_manyBy_19 : decode cX9_manyBy 19 = .ok (.lreturn, 1) := by decide +kernel
theorem dX9_areDays_0 : decode cX9_areDays 0 = .ok (.lload_n 0, 1) := by decide +kernel
theorem dX9_areDays_1 : decode cX9_areDays 1 = .ok (.invokestatic 165, 3) := by decide +kernel
theorem dX9_areDays_4 : decode cX9_areDays 4 = .ok (.ifCond .eq 18, 3) := by decide +kernel
theorem dX9_areDays_7 : decode cX9_areDays 7 = .ok (.lload_n 2, 1) := by decide +kernel
theorem dX9_areDays_8 : decode cX9_areDays 8 = .ok (.lload_n 0, 1) := by decide +kernel
theorem dX9_areDays_9 : decode cX9_areDays 9 = .ok (.ldc2_w 163, 3) := by decide +kernel
theorem dX9_areDays_12 : decode cX9_areDays 12 = .ok (.invokestatic 71, 3) := by decide +kernel
theorem dX9_areDays_15 : decode cX9_areDays 15 = .ok (.ifCond .eq 7, 3) := by decide +kernel
theorem dX9_areDays_18 : decode cX9_areDays 18 = .ok (.iconst 1, 1) := by decide +kernel
theorem dX9_areDays_19 : decode cX9_areDays 19 = .ok (.goto 4, 3) := by decide +kernel
theorem dX9_areDays_22 : decode cX9_areDays 22 = .ok (.iconst 0, 1) := by decide +kernel
theorem dX9_areDays_23 : decode cX9_areDays 23 = .ok (.ireturn, 1) := by decide +kernel
theorem dX9_often_0 : decode cX9_often 0 = .ok (.aload_n 0, 1) := by decide +kernel
theorem dX9_often_1 : decode cX9_often 1 = .ok (.iload_n 1, 1) := by decide +kernel
theorem dX9_often_2 : decode cX9_often 2 = .ok (.invokevirtual 146, 3) := by decide +kernel
theorem dX9_often_5 : decode cX9_often 5 = .ok (.ifCond .eq 12, 3) := by decide +kernel
theorem dX9_often_8 : decode cX9_often 8 = .ok (.lload_n 2, 1) := by decide +kernel
theorem dX9_often_9 : decode cX9_often 9 = .ok (.lload 4, 2) := by decide +kernel
theorem dX9_often_11 : decode cX9_often 11 = .ok (.invokestatic 196, 3) := by decide +kernel
theorem dX9_often_14 : decode cX9_often 14 = .ok (.ifCond .ne 7, 3) := by decide +kernel
theorem dX9_often_17 : decode cX9_often 17 = .ok (.ldc2_w 177, 3) := by decide +kernel
theorem dX9_often_20 : decode cX9_often 20 = .ok (.lreturn, 1) := by decide +kernel
theorem dX9_often_21 : decode cX9_often 21 = .ok (.lconst 0, 1) := by decide +kernel
theorem dX9_often_22 : decode cX9_often 22 = .ok (.lstore 6, 2) := by decide +kernel
theorem dX9_often_24 : decode cX9_often 24 = .ok (.iconst 0, 1) := by decide +kernel
theorem dX9_often_25 : decode cX9_often 25 = .ok (.istore 8, 2) := by decide +kernel
theorem dX9_often_27 : decode cX9_often 27 = .ok (.iload 8, 2) := by decide +kernel
theorem dX9_often_29 : decode cX9_often 29 = .ok (.aload_n 0, 1) := by decide +kernel
theorem dX9_often_30 : decode cX9_often 30 = .ok (.iload_n 1, 1) := by decide +kernel
theorem dX9_often_31 : decode cX9_often 31 = .ok (.invokevirtual 157, 3) := by decide +kernel
theorem dX9_often_34 : decode cX9_often 34 = .ok (.if_icmp .ge 34, 3) := by decide +kernel
theorem dX9_often_37 : decode cX9_often 37 = .ok (.lload 6, 2) := by decide +kernel
theorem dX9_often_39 : decode cX9_often 39 = .ok (.lload_n 2, 1) := by decide +kernel
theorem dX9_often_40 : decode cX9_often 40 = .ok (.lload 4, 2) := by decide +kernel
theorem dX9_often_42 : decode cX9_often 42 = .ok (.aload_n 0, 1) := by decide +kernel
theorem dX9_often_43 : decode cX9_often 43 = .ok (.iload_n 1, 1) := by decide +kernel
theorem dX9_often_44 : decode cX9_often 44 = .ok (.iload 8, 2) := by decide +kernel
theorem dX9_often_46 : decode cX9_often 46 = .ok (.invokevirtual 160, 3) := by decide +kernel
theorem dX9_often_49 : decode cX9_often 49 = .ok (.i2l, 1) := by decide +kernel
theorem dX9_often_50 : decode cX9_often 50 = .ok (.aload_n 0, 1) := by decide +kernel
theorem dX9_often_51 : decode cX9_often 51 = .ok (.iload_n 1, 1) := by decide +kernel
theorem dX9_often_52 : decode cX9_often 52 = .ok (.invokevirtual 152, 3) := by decide +kernel
theorem dX9_often_55 : decode cX9_often 55 = .ok (.i2l, 1) := by decide +kernel
theorem dX9_often_56 : decode cX9_often 56 = .ok (.invokestatic 200, 3) := by decide +kernel
theorem dX9_often_59 : decode cX9_often 59 = .ok (.ladd, 1) := by decide +kernel
theorem dX9_often_60 : decode cX9_often 60 = .ok (.lstore 6, 2) := by decide +kernel
theorem dX9_often_62 : decode cX9_often 62 = .ok (.iinc 8 1, 3) := by decide +kernel
theorem dX9_often_65 : decode cX9_often 65 = .ok (.goto (-38), 3) := by decide +kernel
theorem dX9_often_68 : decode cX9_often 68 = .ok (.lload 6, 2) := by decide +kernel
theorem dX9_often_70 : decode cX9_often 70 = .ok (.lreturn, 1) := by decide +kernel
theorem dX9_common_0 : decode cX9_common 0 = .ok (.lload_n 0, 1) := by decide +kernel
theorem dX9_common_1 : decode cX9_common 1 = .ok (.lstore 4, 2) := by decide +kernel
theorem dX9_common_3 : decode cX9_common 3 = .ok (.lload_n 2, 1) := by decide +kernel
theorem dX9_common_4 : decode cX9_common 4 = .ok (.lstore 6, 2) := by decide +kernel
theorem dX9_common_6 : decode cX9_common 6 = .ok (.lload 6, 2) := by decide +kernel
theorem dX9_common_8 : decode cX9_common 8 = .ok (.lconst 0, 1) := by decide +kernel
theorem dX9_common_9 : decode cX9_common 9 = .ok (.lcmp, 1) := by decide +kernel
theorem dX9_common_10 : decode cX9_common 10 = .ok (.ifCond .eq 21, 3) := by decide +kernel
theorem dX9_common_13 : decode cX9_common 13 = .ok (.lload 4, 2) := by decide +kernel
theorem dX9_common_15 : decode cX9_common 15 = .ok (.lload 6, 2) := by decide +kernel
theorem dX9_common_17 : decode cX9_common 17 = .ok (.lrem, 1) := by decide +kernel
theorem dX9_common_18 : decode cX9_common 18 = .ok (.lstore 8, 2) := by decide +kernel
theorem dX9_common_20 : decode cX9_common 20 = .ok (.lload 6, 2) := by decide +kernel
theorem dX9_common_22 : decode cX9_common 22 = .ok (.lstore 4, 2) := by decide +kernel
theorem dX9_common_24 : decode cX9_common 24 = .ok (.lload 8, 2) := by decide +kernel
theorem dX9_common_26 : decode cX9_common 26 = .ok (.lstore 6, 2) := by decide +kernel
theorem dX9_common_28 : decode cX9_common 28 = .ok (.goto (-22), 3) := by decide +kernel
theorem dX9_common_31 : decode cX9_common 31 = .ok (.lload 4, 2) := by decide +kernel
theorem dX9_common_33 : decode cX9_common 33 = .ok (.lreturn, 1) := by decide +kernel
theorem dX9_multiple_0 : decode cX9_multiple 0 = .ok (.lload_n 0, 1) := by decide +kernel
theorem dX9_multiple_1 : decode cX9_multiple 1 = .ok (.lload_n 0, 1) := by decide +kernel
theorem dX9_multiple_2 : decode cX9_multiple 2 = .ok (.lload_n 2, 1) := by decide +kernel
theorem dX9_multiple_3 : decode cX9_multiple 3 = .ok (.invokestatic 204, 3) := by decide +kernel
theorem dX9_multiple_6 : decode cX9_multiple 6 = .ok (.ldiv, 1) := by decide +kernel
theorem dX9_multiple_7 : decode cX9_multiple 7 = .ok (.lload_n 2, 1) := by decide +kernel
theorem dX9_multiple_8 : decode cX9_multiple 8 = .ok (.lmul, 1) := by decide +kernel
theorem dX9_multiple_9 : decode cX9_multiple 9 = .ok (.lreturn, 1) := by decide +kernel
theorem dX9_startsRests_0 : decode cX9_startsRests 0 = .ok (.aload_n 0, 1) := by decide +kernel
theorem dX9_startsRests_1 : decode cX9_startsRests 1 = .ok (.getfield 24, 3) := by decide +kernel
theorem dX9_startsRests_4 : decode cX9_startsRests 4 = .ok (.iconst 0, 1) := by decide +kernel
theorem dX9_startsRests_5 : decode cX9_startsRests 5 = .ok (.lconst 0, 1) := by decide +kernel
theorem dX9_startsRests_6 : decode cX9_startsRests 6 = .ok (.lastore, 1) := by decide +kernel
theorem dX9_startsRests_7 : decode cX9_startsRests 7 = .ok (.aload_n 0, 1) := by decide +kernel
theorem dX9_startsRests_8 : decode cX9_startsRests 8 = .ok (.iconst 1, 1) := by decide +kernel
theorem dX9_startsRests_9 : decode cX9_startsRests 9 = .ok (.putfield 208, 3) := by decide +kernel
theorem dX9_startsRests_12 : decode cX9_startsRests 12 = .ok (.aload_n 0, 1) := by decide +kernel
theorem dX9_startsRests_13 : decode cX9_startsRests 13 = .ok (.lconst 1, 1) := by decide +kernel
theorem dX9_startsRests_14 : decode cX9_startsRests 14 = .ok (.putfield 211, 3) := by decide +kernel
theorem dX9_startsRests_17 : decode cX9_startsRests 17 = .ok (.return_, 1) := by decide +kernel
theorem dX9_joinsRests_0 : decode cX9_joinsRests 0 = .ok (.aload_n 0, 1) := by decide +kernel
theorem dX9_joinsRests_1 : decode cX9_joinsRests 1 = .ok (.getfield 211, 3) := by decide +kernel
theorem dX9_joinsRests_4 : decode cX9_joinsRests 4 = .ok (.aload_n 0, 1) := by decide +kernel
theorem dX9_joinsRests_5 : decode cX9_joinsRests 5 = .ok (.iload_n 1, 1) := by decide +kernel
theorem dX9_joinsRests_6 : decode cX9_joinsRests 6 = .ok (.invokevirtual 152, 3) := by decide +kernel
theorem dX9_joinsRests_9 : decode cX9_joinsRests 9 = .ok (.i2l, 1) := by decide +kernel
theorem dX9_joinsRests_10 : decode cX9_joinsRests 10 = .ok (.invokestatic 215, 3) := by decide +kernel
theorem dX9_joinsRests_13 : decode cX9_joinsRests 13 = .ok (.lstore_n 2, 1) := by decide +kernel
theorem dX9_joinsRests_14 : decode cX9_joinsRests 14 = .ok (.iconst 0, 1) := by decide +kernel
theorem dX9_joinsRests_15 : decode cX9_joinsRests 15 = .ok (.istore 4, 2) := by decide +kernel
theorem dX9_joinsRests_17 : decode cX9_joinsRests 17 = .ok (.iconst 0, 1) := by decide +kernel
theorem dX9_joinsRests_18 : decode cX9_joinsRests 18 = .ok (.istore 5, 2) := by decide +kernel
theorem dX9_joinsRests_20 : decode cX9_joinsRests 20 = .ok (.iload 5, 2) := by decide +kernel
theorem dX9_joinsRests_22 : decode cX9_joinsRests 22 = .ok (.aload_n 0, 1) := by decide +kernel
theorem dX9_joinsRests_23 : decode cX9_joinsRests 23 = .ok (.getfield 208, 3) := by decide +kernel
theorem dX9_joinsRests_26 : decode cX9_joinsRests 26 = .ok (.if_icmp .ge 96, 3) := by decide +kernel
theorem dX9_joinsRests_29 : decode cX9_joinsRests 29 = .ok (.iconst 0, 1) := by decide +kernel
theorem dX9_joinsRests_30 : decode cX9_joinsRests 30 = .ok (.istore 6, 2) := by decide +kernel
theorem dX9_joinsRests_32 : decode cX9_joinsRests 32 = .ok (.iload 6, 2) := by decide +kernel
theorem dX9_joinsRests_34 : decode cX9_joinsRests 34 = .ok (.aload_n 0, 1) := by decide +kernel
theorem dX9_joinsRests_35 : decode cX9_joinsRests 35 = .ok (.iload_n 1, 1) := by decide +kernel
theorem dX9_joinsRests_36 : decode cX9_joinsRests 36 = .ok (.invokevirtual 157, 3) := by decide +kernel
theorem dX9_joinsRests_39 : decode cX9_joinsRests 39 = .ok (.if_icmp .ge 77, 3) := by decide +kernel
theorem dX9_joinsRests_42 : decode cX9_joinsRests 42 = .ok (.aload_n 0, 1) := by decide +kernel
theorem dX9_joinsRests_43 : decode cX9_joinsRests 43 = .ok (.getfield 24, 3) := by decide +kernel
theorem dX9_joinsRests_46 : decode cX9_joinsRests 46 = .ok (.iload 5, 2) := by decide +kernel
theorem dX9_joinsRests_48 : decode cX9_joinsRests 48 = .ok (.laload, 1) := by decide +kernel
theorem dX9_joinsRests_49 : decode cX9_joinsRests 49 = .ok (.lstore 7, 2) := by decide +kernel
theorem dX9_joinsRests_51 : decode cX9_joinsRests 51 = .ok (.lload 7, 2) := by decide +kernel
theorem dX9_joinsRests_53 : decode cX9_joinsRests 53 = .ok (.lload_n 2, 1) := by decide +kernel
theorem dX9_joinsRests_54 : decode cX9_joinsRests 54 = .ok (.lcmp, 1) := by decide +kernel
theorem dX9_joinsRests_55 : decode cX9_joinsRests 55 = .ok (.ifCond .ge 36, 3) := by decide +kernel
theorem dX9_joinsRests_58 : decode cX9_joinsRests 58 = .ok (.lload 7, 2) := by decide +kernel
theorem dX9_joinsRests_60 : decode cX9_joinsRests 60 = .ok (.aload_n 0, 1) := by decide +kernel
theorem dX9_joinsRests_61 : decode cX9_joinsRests 61 = .ok (.iload_n 1, 1) := by decide +kernel
theorem dX9_joinsRests_62 : decode cX9_joinsRests 62 = .ok (.invokevirtual 152, 3) := by decide +kernel
theorem dX9_joinsRests_65 : decode cX9_joinsRests 65 = .ok (.i2l, 1) := by decide +kernel
theorem dX9_joinsRests_66 : decode cX9_joinsRests 66 = .ok (.lrem, 1) := by decide +kernel
theorem dX9_joinsRests_67 : decode cX9_joinsRests 67 = .ok (.aload_n 0, 1) := by decide +kernel
theorem dX9_joinsRests_68 : decode cX9_joinsRests 68 = .ok (.iload_n 1, 1) := by decide +kernel
theorem dX9_joinsRests_69 : decode cX9_joinsRests 69 = .ok (.iload 6, 2) := by decide +kernel
theorem dX9_joinsRests_71 : decode cX9_joinsRests 71 = .ok (.invokevirtual 160, 3) := by decide +kernel
theorem dX9_joinsRests_74 : decode cX9_joinsRests 74 = .ok (.i2l, 1) := by decide +kernel
theorem dX9_joinsRests_75 : decode cX9_joinsRests 75 = .ok (.lcmp, 1) := by decide +kernel
theorem dX9_joinsRests_76 : decode cX9_joinsRests 76 = .ok (.ifCond .eq 15, 3) := by decide +kernel
theorem dX9_joinsRests_79 : decode cX9_joinsRests 79 = .ok (.lload 7, 2) := by decide +kernel
theorem dX9_joinsRests_81 : decode cX9_joinsRests 81 = .ok (.aload_n 0, 1) := by decide +kernel
theorem dX9_joinsRests_82 : decode cX9_joinsRests 82 = .ok (.getfield 211, 3) := by decide +kernel
theorem dX9_joinsRests_85 : decode cX9_joinsRests 85 = .ok (.ladd, 1) := by decide +kernel
theorem dX9_joinsRests_86 : decode cX9_joinsRests 86 = .ok (.lstore 7, 2) := by decide +kernel
theorem dX9_joinsRests_88 : decode cX9_joinsRests 88 = .ok (.goto (-37), 3) := by decide +kernel
theorem dX9_joinsRests_91 : decode cX9_joinsRests 91 = .ok (.lload 7, 2) := by decide +kernel
theorem dX9_joinsRests_93 : decode cX9_joinsRests 93 = .ok (.lload_n 2, 1) := by decide +kernel
theorem dX9_joinsRests_94 : decode cX9_joinsRests 94 = .ok (.lcmp, 1) := by decide +kernel
theorem dX9_joinsRests_95 : decode cX9_joinsRests 95 = .ok (.ifCond .ge 15, 3) := by decide +kernel
theorem dX9_joinsRests_98 : decode cX9_joinsRests 98 = .ok (.aload_n 0, 1) := by decide +kernel
theorem dX9_joinsRests_99 : decode cX9_joinsRests 99 = .ok (.getfield 28, 3) := by decide +kernel
theorem dX9_joinsRests_102 : decode cX9_joinsRests 102 = .ok (.iload 4, 2) := by decide +kernel
theorem dX9_joinsRests_104 : decode cX9_joinsRests 104 = .ok (.lload 7, 2) := by decide +kernel
theorem dX9_joinsRests_106 : decode cX9_joinsRests 106 = .ok (.lastore, 1) := by decide +kernel
theorem dX9_joinsRests_107 : decode cX9_joinsRests 107 = .ok (.iinc 4 1, 3) := by decide +kernel
theorem dX9_joinsRests_110 : decode cX9_joinsRests 110 = .ok (.iinc 6 1, 3) := by decide +kernel
theorem dX9_joinsRests_113 : decode cX9_joinsRests 113 = .ok (.goto (-81), 3) := by decide +kernel
theorem dX9_joinsRests_116 : decode cX9_joinsRests 116 = .ok (.iinc 5 1, 3) := by decide +kernel
theorem dX9_joinsRests_119 : decode cX9_joinsRests 119 = .ok (.goto (-99), 3) := by decide +kernel
theorem dX9_joinsRests_122 : decode cX9_joinsRests 122 = .ok (.iconst 0, 1) := by decide +kernel
theorem dX9_joinsRests_123 : decode cX9_joinsRests 123 = .ok (.istore 5, 2) := by decide +kernel
theorem dX9_joinsRests_125 : decode cX9_joinsRests 125 = .ok (.iload 5, 2) := by decide +kernel
theorem dX9_joinsRests_127 : decode cX9_joinsRests 127 = .ok (.iload 4, 2) := by decide +kernel
theorem dX9_joinsRests_129 : decode cX9_joinsRests 129 = .ok (.if_icmp .ge 23, 3) := by decide +kernel
theorem dX9_joinsRests_132 : decode cX9_joinsRests 132 = .ok (.aload_n 0, 1) := by decide +kernel
theorem dX9_joinsRests_133 : decode cX9_joinsRests 133 = .ok (.getfield 24, 3) := by decide +kernel
theorem dX9_joinsRests_136 : decode cX9_joinsRests 136 = .ok (.iload 5, 2) := by decide +kernel
theorem dX9_joinsRests_138 : decode cX9_joinsRests 138 = .ok (.aload_n 0, 1) := by decide +kernel
theorem dX9_joinsRests_139 : decode cX9_joinsRests 139 = .ok (.getfield 28, 3) := by decide +kernel
theorem dX9_joinsRests_142 : decode cX9_joinsRests 142 = .ok (.iload 5, 2) := by decide +kernel
theorem dX9_joinsRests_144 : decode cX9_joinsRests 144 = .ok (.laload, 1) := by decide +kernel
theorem dX9_joinsRests_145 : decode cX9_joinsRests 145 = .ok (.lastore, 1) := by decide +kernel
theorem dX9_joinsRests_146 : decode cX9_joinsRests 146 = .ok (.iinc 5 1, 3) := by decide +kernel
theorem dX9_joinsRests_149 : decode cX9_joinsRests 149 = .ok (.goto (-24), 3) := by decide +kernel
theorem dX9_joinsRests_152 : decode cX9_joinsRests 152 = .ok (.aload_n 0, 1) := by decide +kernel
theorem dX9_joinsRests_153 : decode cX9_joinsRests 153 = .ok (.iload 4, 2) := by decide +kernel
theorem dX9_joinsRests_155 : decode cX9_joinsRests 155 = .ok (.putfield 208, 3) := by decide +kernel
theorem dX9_joinsRests_158 : decode cX9_joinsRests 158 = .ok (.aload_n 0, 1) := by decide +kernel
theorem dX9_joinsRests_159 : decode cX9_joinsRests 159 = .ok (.lload_n 2, 1) := by decide +kernel
theorem dX9_joinsRests_160 : decode cX9_joinsRests 160 = .ok (.putfield 211, 3) := by decide +kernel
theorem dX9_joinsRests_163 : decode cX9_joinsRests 163 = .ok (.return_, 1) := by decide +kernel
theorem dX9_findRests_0 : decode cX9_findRests 0 = .ok (.aload_n 0, 1) := by decide +kernel
theorem dX9_findRests_1 : decode cX9_findRests 1 = .ok (.invokevirtual 218, 3) := by decide +kernel
theorem dX9_findRests_4 : decode cX9_findRests 4 = .ok (.iconst 0, 1) := by decide +kernel
theorem dX9_findRests_5 : decode cX9_findRests 5 = .ok (.istore_n 2, 1) := by decide +kernel
theorem dX9_findRests_6 : decode cX9_findRests 6 = .ok (.iload_n 2, 1) := by decide +kernel
theorem dX9_findRests_7 : decode cX9_findRests 7 = .ok (.aload_n 0, 1) := by decide +kernel
theorem dX9_findRests_8 : decode cX9_findRests 8 = .ok (.getfield 7, 3) := by decide +kernel
theorem dX9_findRests_11 : decode cX9_findRests 11 = .ok (.iconst 0, 1) := by decide +kernel
theorem dX9_findRests_12 : decode cX9_findRests 12 = .ok (.iaload, 1) := by decide +kernel
theorem dX9_findRests_13 : decode cX9_findRests 13 = .ok (.if_icmp .ge 23, 3) := by decide +kernel
theorem dX9_findRests_16 : decode cX9_findRests 16 = .ok (.iload_n 1, 1) := by decide +kernel
theorem dX9_findRests_17 : decode cX9_findRests 17 = .ok (.iload_n 2, 1) := by decide +kernel
theorem dX9_findRests_18 : decode cX9_findRests 18 = .ok (.ishr, 1) := by decide +kernel
theorem dX9_findRests_19 : decode cX9_findRests 19 = .ok (.iconst 1, 1) := by decide +kernel
theorem dX9_findRests_20 : decode cX9_findRests 20 = .ok (.iand, 1) := by decide +kernel
theorem dX9_findRests_21 : decode cX9_findRests 21 = .ok (.iconst 1, 1) := by decide +kernel
theorem dX9_findRests_22 : decode cX9_findRests 22 = .ok (.if_icmp .ne 8, 3) := by decide +kernel
theorem dX9_findRests_25 : decode cX9_findRests 25 = .ok (.aload_n 0, 1) := by decide +kernel
theorem dX9_findRests_26 : decode cX9_findRests 26 = .ok (.iload_n 2, 1) := by decide +kernel
theorem dX9_findRests_27 : decode cX9_findRests 27 = .ok (.invokevirtual 221, 3) := by decide +kernel
theorem dX9_findRests_30 : decode cX9_findRests 30 = .ok (.iinc 2 1, 3) := by decide +kernel
theorem dX9_findRests_33 : decode cX9_findRests 33 = .ok (.goto (-27), 3) := by decide +kernel
theorem dX9_findRests_36 : decode cX9_findRests 36 = .ok (.return_, 1) := by decide +kernel
theorem dX9_firstOfRests_0 : decode cX9_firstOfRests 0 = .ok (.ldc2_w 177, 3) := by decide +kernel
theorem dX9_firstOfRests_3 : decode cX9_firstOfRests 3 = .ok (.lstore_n 3, 1) := by decide +kernel
theorem dX9_firstOfRests_4 : decode cX9_firstOfRests 4 = .ok (.iconst 0, 1) := by decide +kernel
theorem dX9_firstOfRests_5 : decode cX9_firstOfRests 5 = .ok (.istore 5, 2) := by decide +kernel
theorem dX9_firstOfRests_7 : decode cX9_firstOfRests 7 = .ok (.iload 5, 2) := by decide +kernel
theorem dX9_firstOfRests_9 : decode cX9_firstOfRests 9 = .ok (.aload_n 0, 1) := by decide +kernel
theorem dX9_firstOfRests_10 : decode cX9_firstOfRests 10 = .ok (.getfield 208, 3) := by decide +kernel
theorem dX9_firstOfRests_13 : decode cX9_firstOfRests 13 = .ok (.if_icmp .ge 46, 3) := by decide +kernel
theorem dX9_firstOfRests_16 : decode cX9_firstOfRests 16 = .ok (.lload_n 1, 1) := by decide +kernel
theorem dX9_firstOfRests_17 : decode cX9_firstOfRests 17 = .ok (.aload_n 0, 1) := by decide +kernel
theorem dX9_firstOfRests_18 : decode cX9_firstOfRests 18 = .ok (.getfield 24, 3) := by decide +kernel
theorem dX9_firstOfRests_21 : decode cX9_firstOfRests 21 = .ok (.iload 5, 2) := by decide +kernel
theorem dX9_firstOfRests_23 : decode cX9_firstOfRests 23 = .ok (.laload, 1) := by decide +kernel
theorem dX9_firstOfRests_24 : decode cX9_firstOfRests 24 = .ok (.aload_n 0, 1) := by decide +kernel
theorem dX9_firstOfRests_25 : decode cX9_firstOfRests 25 = .ok (.getfield 211, 3) := by decide +kernel
theorem dX9_firstOfRests_28 : decode cX9_firstOfRests 28 = .ok (.invokestatic 179, 3) := by decide +kernel
theorem dX9_firstOfRests_31 : decode cX9_firstOfRests 31 = .ok (.lstore 6, 2) := by decide +kernel
theorem dX9_firstOfRests_33 : decode cX9_firstOfRests 33 = .ok (.lload_n 3, 1) := by decide +kernel
theorem dX9_firstOfRests_34 : decode cX9_firstOfRests 34 = .ok (.lconst 0, 1) := by decide +kernel
theorem dX9_firstOfRests_35 : decode cX9_firstOfRests 35 = .ok (.lcmp, 1) := by decide +kernel
theorem dX9_firstOfRests_36 : decode cX9_firstOfRests 36 = .ok (.ifCond .lt 10, 3) := by decide +kernel
theorem dX9_firstOfRests_39 : decode cX9_firstOfRests 39 = .ok (.lload 6, 2) := by decide +kernel
theorem dX9_firstOfRests_41 : decode cX9_firstOfRests 41 = .ok (.lload_n 3, 1) := by decide +kernel
theorem dX9_firstOfRests_42 : decode cX9_firstOfRests 42 = .ok (.lcmp, 1) := by decide +kernel
theorem dX9_firstOfRests_43 : decode cX9_firstOfRests 43 = .ok (.ifCond .ge 8, 3) := by decide +kernel
theorem dX9_firstOfRests_46 : decode cX9_firstOfRests 46 = .ok (.lload 6, 2) := by decide +kernel
theorem dX9_firstOfRests_48 : decode cX9_firstOfRests 48 = .ok (.goto 4, 3) := by decide +kernel
theorem dX9_firstOfRests_51 : decode cX9_firstOfRests 51 = .ok (.lload_n 3, 1) := by decide +kernel
theorem dX9_firstOfRests_52 : decode cX9_firstOfRests 52 = .ok (.lstore_n 3, 1) := by decide +kernel
theorem dX9_firstOfRests_53 : decode cX9_firstOfRests 53 = .ok (.iinc 5 1, 3) := by decide +kernel
theorem dX9_firstOfRests_56 : decode cX9_firstOfRests 56 = .ok (.goto (-49), 3) := by decide +kernel
theorem dX9_firstOfRests_59 : decode cX9_firstOfRests 59 = .ok (.lload_n 3, 1) := by decide +kernel
theorem dX9_firstOfRests_60 : decode cX9_firstOfRests 60 = .ok (.lreturn, 1) := by decide +kernel
theorem dX9_areTwo_0 : decode cX9_areTwo 0 = .ok (.aload_n 0, 1) := by decide +kernel
theorem dX9_areTwo_1 : decode cX9_areTwo 1 = .ok (.iload_n 1, 1) := by decide +kernel
theorem dX9_areTwo_2 : decode cX9_areTwo 2 = .ok (.invokevirtual 146, 3) := by decide +kernel
theorem dX9_areTwo_5 : decode cX9_areTwo 5 = .ok (.ifCond .eq 20, 3) := by decide +kernel
theorem dX9_areTwo_8 : decode cX9_areTwo 8 = .ok (.aload_n 0, 1) := by decide +kernel
theorem dX9_areTwo_9 : decode cX9_areTwo 9 = .ok (.iload_n 2, 1) := by decide +kernel
theorem dX9_areTwo_10 : decode cX9_areTwo 10 = .ok (.invokevirtual 146, 3) := by decide +kernel
theorem dX9_areTwo_13 : decode cX9_areTwo 13 = .ok (.ifCond .eq 12, 3) := by decide +kernel
theorem dX9_areTwo_16 : decode cX9_areTwo 16 = .ok (.iload_n 1, 1) := by decide +kernel
theorem dX9_areTwo_17 : decode cX9_areTwo 17 = .ok (.iload_n 2, 1) := by decide +kernel
theorem dX9_areTwo_18 : decode cX9_areTwo 18 = .ok (.if_icmp .eq 7, 3) := by decide +kernel
theorem dX9_areTwo_21 : decode cX9_areTwo 21 = .ok (.iconst 1, 1) := by decide +kernel
theorem dX9_areTwo_22 : decode cX9_areTwo 22 = .ok (.goto 4, 3) := by decide +kernel
theorem dX9_areTwo_25 : decode cX9_areTwo 25 = .ok (.iconst 0, 1) := by decide +kernel
theorem dX9_areTwo_26 : decode cX9_areTwo 26 = .ok (.ireturn, 1) := by decide +kernel
theorem dX9_togetherOf_0 : decode cX9_togetherOf 0 = .ok (.aload_n 0, 1) := by decide +kernel
theorem dX9_togetherOf_1 : decode cX9_togetherOf 1 = .ok (.iconst 1, 1) := by decide +kernel
theorem dX9_togetherOf_2 : decode cX9_togetherOf 2 = .ok (.iload_n 1, 1) := by decide +kernel
theorem dX9_togetherOf_3 : decode cX9_togetherOf 3 = .ok (.ishl, 1) := by decide +kernel
theorem dX9_togetherOf_4 : decode cX9_togetherOf 4 = .ok (.iconst 1, 1) := by decide +kernel
theorem dX9_togetherOf_5 : decode cX9_togetherOf 5 = .ok (.iload_n 2, 1) := by decide +kernel
theorem dX9_togetherOf_6 : decode cX9_togetherOf 6 = .ok (.ishl, 1) := by decide +kernel
theorem dX9_togetherOf_7 : decode cX9_togetherOf 7 = .ok (.ior, 1) := by decide +kernel
theorem dX9_togetherOf_8 : decode cX9_togetherOf 8 = .ok (.invokevirtual 225, 3) := by decide +kernel
theorem dX9_togetherOf_11 : decode cX9_togetherOf 11 = .ok (.aload_n 0, 1) := by decide +kernel
theorem dX9_togetherOf_12 : decode cX9_togetherOf 12 = .ok (.lload_n 3, 1) := by decide +kernel
theorem dX9_togetherOf_13 : decode cX9_togetherOf 13 = .ok (.invokevirtual 228, 3) := by decide +kernel
theorem dX9_togetherOf_16 : decode cX9_togetherOf 16 = .ok (.lreturn, 1) := by decide +kernel
theorem dX9_together_0 : decode cX9_together 0 = .ok (.aload_n 0, 1) := by decide +kernel
theorem dX9_together_1 : decode cX9_together 1 = .ok (.iload_n 1, 1) := by decide +kernel
theorem dX9_together_2 : decode cX9_together 2 = .ok (.iload_n 2, 1) := by decide +kernel
theorem dX9_together_3 : decode cX9_together 3 = .ok (.invokevirtual 231, 3) := by decide +kernel
theorem dX9_together_6 : decode cX9_together 6 = .ok (.ifCond .eq 23, 3) := by decide +kernel
theorem dX9_together_9 : decode cX9_together 9 = .ok (.lload_n 3, 1) := by decide +kernel
theorem dX9_together_10 : decode cX9_together 10 = .ok (.invokestatic 165, 3) := by decide +kernel
theorem dX9_together_13 : decode cX9_together 13 = .ok (.ifCond .eq 16, 3) := by decide +kernel
theorem dX9_together_16 : decode cX9_together 16 = .ok (.aload_n 0, 1) := by decide +kernel
theorem dX9_together_17 : decode cX9_together 17 = .ok (.iload_n 1, 1) := by decide +kernel
theorem dX9_together_18 : decode cX9_together 18 = .ok (.iload_n 2, 1) := by decide +kernel
theorem dX9_together_19 : decode cX9_together 19 = .ok (.lload_n 3, 1) := by decide +kernel
theorem dX9_together_20 : decode cX9_together 20 = .ok (.invokevirtual 235, 3) := by decide +kernel
theorem dX9_together_23 : decode cX9_together 23 = .ok (.invokestatic 189, 3) := by decide +kernel
theorem dX9_together_26 : decode cX9_together 26 = .ok (.goto 6, 3) := by decide +kernel
theorem dX9_together_29 : decode cX9_together 29 = .ok (.ldc2_w 177, 3) := by decide +kernel
theorem dX9_together_32 : decode cX9_together 32 = .ok (.lreturn, 1) := by decide +kernel
theorem dX9_meetings_0 : decode cX9_meetings 0 = .ok (.aload_n 0, 1) := by decide +kernel
theorem dX9_meetings_1 : decode cX9_meetings 1 = .ok (.iload_n 1, 1) := by decide +kernel
theorem dX9_meetings_2 : decode cX9_meetings 2 = .ok (.iload_n 2, 1) := by decide +kernel
theorem dX9_meetings_3 : decode cX9_meetings 3 = .ok (.invokevirtual 231, 3) := by decide +kernel
theorem dX9_meetings_6 : decode cX9_meetings 6 = .ok (.ifCond .eq 12, 3) := by decide +kernel
theorem dX9_meetings_9 : decode cX9_meetings 9 = .ok (.lload_n 3, 1) := by decide +kernel
theorem dX9_meetings_10 : decode cX9_meetings 10 = .ok (.lload 5, 2) := by decide +kernel
theorem dX9_meetings_12 : decode cX9_meetings 12 = .ok (.invokestatic 196, 3) := by decide +kernel
theorem dX9_meetings_15 : decode cX9_meetings 15 = .ok (.ifCond .ne 7, 3) := by decide +kernel
theorem dX9_meetings_18 : decode cX9_meetings 18 = .ok (.ldc2_w 177, 3) := by decide +kernel
theorem dX9_meetings_21 : decode cX9_meetings 21 = .ok (.lreturn, 1) := by decide +kernel
theorem dX9_meetings_22 : decode cX9_meetings 22 = .ok (.aload_n 0, 1) := by decide +kernel
theorem dX9_meetings_23 : decode cX9_meetings 23 = .ok (.iconst 1, 1) := by decide +kernel
theorem dX9_meetings_24 : decode cX9_meetings 24 = .ok (.iload_n 1, 1) := by decide +kernel
theorem dX9_meetings_25 : decode cX9_meetings 25 = .ok (.ishl, 1) := by decide +kernel
theorem dX9_meetings_26 : decode cX9_meetings 26 = .ok (.iconst 1, 1) := by decide +kernel
theorem dX9_meetings_27 : decode cX9_meetings 27 = .ok (.iload_n 2, 1) := by decide +kernel
theorem dX9_meetings_28 : decode cX9_meetings 28 = .ok (.ishl, 1) := by decide +kernel
theorem dX9_meetings_29 : decode cX9_meetings 29 = .ok (.ior, 1) := by decide +kernel
theorem dX9_meetings_30 : decode cX9_meetings 30 = .ok (.invokevirtual 225, 3) := by decide +kernel
theorem dX9_meetings_33 : decode cX9_meetings 33 = .ok (.lconst 0, 1) := by decide +kernel
theorem dX9_meetings_34 : decode cX9_meetings 34 = .ok (.lstore 7, 2) := by decide +kernel
theorem dX9_meetings_36 : decode cX9_meetings 36 = .ok (.iconst 0, 1) := by decide +kernel
theorem dX9_meetings_37 : decode cX9_meetings 37 = .ok (.istore 9, 2) := by decide +kernel
theorem dX9_meetings_39 : decode cX9_meetings 39 = .ok (.iload 9, 2) := by decide +kernel
theorem dX9_meetings_41 : decode cX9_meetings 41 = .ok (.aload_n 0, 1) := by decide +kernel
theorem dX9_meetings_42 : decode cX9_meetings 42 = .ok (.getfield 208, 3) := by decide +kernel
theorem dX9_meetings_45 : decode cX9_meetings 45 = .ok (.if_icmp .ge 31, 3) := by decide +kernel
theorem dX9_meetings_48 : decode cX9_meetings 48 = .ok (.lload 7, 2) := by decide +kernel
theorem dX9_meetings_50 : decode cX9_meetings 50 = .ok (.lload_n 3, 1) := by decide +kernel
theorem dX9_meetings_51 : decode cX9_meetings 51 = .ok (.lload 5, 2) := by decide +kernel
theorem dX9_meetings_53 : decode cX9_meetings 53 = .ok (.aload_n 0, 1) := by decide +kernel
theorem dX9_meetings_54 : decode cX9_meetings 54 = .ok (.getfield 24, 3) := by decide +kernel
theorem dX9_meetings_57 : decode cX9_meetings 57 = .ok (.iload 9, 2) := by decide +kernel
theorem dX9_meetings_59 : decode cX9_meetings 59 = .ok (.laload, 1) := by decide +kernel
theorem dX9_meetings_60 : decode cX9_meetings 60 = .ok (.aload_n 0, 1) := by decide +kernel
theorem dX9_meetings_61 : decode cX9_meetings 61 = .ok (.getfield 211, 3) := by decide +kernel
theorem dX9_meetings_64 : decode cX9_meetings 64 = .ok (.invokestatic 200, 3) := by decide +kernel
theorem dX9_meetings_67 : decode cX9_meetings 67 = .ok (.ladd, 1) := by decide +kernel
theorem dX9_meetings_68 : decode cX9_meetings 68 = .ok (.lstore 7, 2) := by decide +kernel
theorem dX9_meetings_70 : decode cX9_meetings 70 = .ok (.iinc 9 1, 3) := by decide +kernel
theorem dX9_meetings_73 : decode cX9_meetings 73 = .ok (.goto (-34), 3) := by decide +kernel
theorem dX9_meetings_76 : decode cX9_meetings 76 = .ok (.lload 7, 2) := by decide +kernel
theorem dX9_meetings_78 : decode cX9_meetings 78 = .ok (.lreturn, 1) := by decide +kernel
theorem dX9_areSome_0 : decode cX9_areSome 0 = .ok (.iload_n 1, 1) := by decide +kernel
theorem dX9_areSome_1 : decode cX9_areSome 1 = .ok (.i2l, 1) := by decide +kernel
theorem dX9_areSome_2 : decode cX9_areSome 2 = .ok (.lconst 1, 1) := by decide +kernel
theorem dX9_areSome_3 : decode cX9_areSome 3 = .ok (.iconst 1, 1) := by decide +kernel
theorem dX9_areSome_4 : decode cX9_areSome 4 = .ok (.aload_n 0, 1) := by decide +kernel
theorem dX9_areSome_5 : decode cX9_areSome 5 = .ok (.getfield 7, 3) := by decide +kernel
theorem dX9_areSome_8 : decode cX9_areSome 8 = .ok (.iconst 0, 1) := by decide +kernel
theorem dX9_areSome_9 : decode cX9_areSome 9 = .ok (.iaload, 1) := by decide +kernel
theorem dX9_areSome_10 : decode cX9_areSome 10 = .ok (.ishl, 1) := by decide +kernel
theorem dX9_areSome_11 : decode cX9_areSome 11 = .ok (.iconst 1, 1) := by decide +kernel
theorem dX9_areSome_12 : decode cX9_areSome 12 = .ok (.isub, 1) := by decide +kernel
theorem dX9_areSome_13 : decode cX9_areSome 13 = .ok (.i2l, 1) := by decide +kernel
theorem dX9_areSome_14 : decode cX9_areSome 14 = .ok (.invokestatic 71, 3) := by decide +kernel
theorem dX9_areSome_17 : decode cX9_areSome 17 = .ok (.ireturn, 1) := by decide +kernel
theorem dX9_all_0 : decode cX9_all 0 = .ok (.aload_n 0, 1) := by decide +kernel
theorem dX9_all_1 : decode cX9_all 1 = .ok (.iload_n 1, 1) := by decide +kernel
theorem dX9_all_2 : decode cX9_all 2 = .ok (.invokevirtual 239, 3) := by decide +kernel
theorem dX9_all_5 : decode cX9_all 5 = .ok (.ifCond .eq 10, 3) := by decide +kernel
theorem dX9_all_8 : decode cX9_all 8 = .ok (.lload_n 2, 1) := by decide +kernel
theorem dX9_all_9 : decode cX9_all 9 = .ok (.invokestatic 165, 3) := by decide +kernel
theorem dX9_all_12 : decode cX9_all 12 = .ok (.ifCond .ne 7, 3) := by decide +kernel
theorem dX9_all_15 : decode cX9_all 15 = .ok (.ldc2_w 177, 3) := by decide +kernel
theorem dX9_all_18 : decode cX9_all 18 = .ok (.lreturn, 1) := by decide +kernel
theorem dX9_all_19 : decode cX9_all 19 = .ok (.aload_n 0, 1) := by decide +kernel
theorem dX9_all_20 : decode cX9_all 20 = .ok (.iload_n 1, 1) := by decide +kernel
theorem dX9_all_21 : decode cX9_all 21 = .ok (.invokevirtual 225, 3) := by decide +kernel
theorem dX9_all_24 : decode cX9_all 24 = .ok (.aload_n 0, 1) := by decide +kernel
theorem dX9_all_25 : decode cX9_all 25 = .ok (.lload_n 2, 1) := by decide +kernel
theorem dX9_all_26 : decode cX9_all 26 = .ok (.invokevirtual 228, 3) := by decide +kernel
theorem dX9_all_29 : decode cX9_all 29 = .ok (.invokestatic 189, 3) := by decide +kernel
theorem dX9_all_32 : decode cX9_all 32 = .ok (.lreturn, 1) := by decide +kernel
theorem dX9_cycle_0 : decode cX9_cycle 0 = .ok (.aload_n 0, 1) := by decide +kernel
theorem dX9_cycle_1 : decode cX9_cycle 1 = .ok (.iload_n 1, 1) := by decide +kernel
theorem dX9_cycle_2 : decode cX9_cycle 2 = .ok (.invokevirtual 239, 3) := by decide +kernel
theorem dX9_cycle_5 : decode cX9_cycle 5 = .ok (.ifCond .ne 7, 3) := by decide +kernel
theorem dX9_cycle_8 : decode cX9_cycle 8 = .ok (.ldc2_w 177, 3) := by decide +kernel
theorem dX9_cycle_11 : decode cX9_cycle 11 = .ok (.lreturn, 1) := by decide +kernel
theorem dX9_cycle_12 : decode cX9_cycle 12 = .ok (.lconst 1, 1) := by decide +kernel
theorem dX9_cycle_13 : decode cX9_cycle 13 = .ok (.lstore_n 2, 1) := by decide +kernel
theorem dX9_cycle_14 : decode cX9_cycle 14 = .ok (.iconst 0, 1) := by decide +kernel
theorem dX9_cycle_15 : decode cX9_cycle 15 = .ok (.istore 4, 2) := by decide +kernel
theorem dX9_cycle_17 : decode cX9_cycle 17 = .ok (.iload 4, 2) := by decide +kernel
theorem dX9_cycle_19 : decode cX9_cycle 19 = .ok (.aload_n 0, 1) := by decide +kernel
theorem dX9_cycle_20 : decode cX9_cycle 20 = .ok (.getfield 7, 3) := by decide +kernel
theorem dX9_cycle_23 : decode cX9_cycle 23 = .ok (.iconst 0, 1) := by decide +kernel
theorem dX9_cycle_24 : decode cX9_cycle 24 = .ok (.iaload, 1) := by decide +kernel
theorem dX9_cycle_25 : decode cX9_cycle 25 = .ok (.if_icmp .ge 35, 3) := by decide +kernel
theorem dX9_cycle_28 : decode cX9_cycle 28 = .ok (.iload_n 1, 1) := by decide +kernel
theorem dX9_cycle_29 : decode cX9_cycle 29 = .ok (.iload 4, 2) := by decide +kernel
theorem dX9_cycle_31 : decode cX9_cycle 31 = .ok (.ishr, 1) := by decide +kernel
theorem dX9_cycle_32 : decode cX9_cycle 32 = .ok (.iconst 1, 1) := by decide +kernel
theorem dX9_cycle_33 : decode cX9_cycle 33 = .ok (.iand, 1) := by decide +kernel
theorem dX9_cycle_34 : decode cX9_cycle 34 = .ok (.iconst 1, 1) := by decide +kernel
theorem dX9_cycle_35 : decode cX9_cycle 35 = .ok (.if_icmp .ne 17, 3) := by decide +kernel
theorem dX9_cycle_38 : decode cX9_cycle 38 = .ok (.lload_n 2, 1) := by decide +kernel
theorem dX9_cycle_39 : decode cX9_cycle 39 = .ok (.aload_n 0, 1) := by decide +kernel
theorem dX9_cycle_40 : decode cX9_cycle 40 = .ok (.iload 4, 2) := by decide +kernel
theorem dX9_cycle_42 : decode cX9_cycle 42 = .ok (.invokevirtual 152, 3) := by decide +kernel
theorem dX9_cycle_45 : decode cX9_cycle 45 = .ok (.i2l, 1) := by decide +kernel
theorem dX9_cycle_46 : decode cX9_cycle 46 = .ok (.invokestatic 215, 3) := by decide +kernel
theorem dX9_cycle_49 : decode cX9_cycle 49 = .ok (.goto 4, 3) := by decide +kernel
theorem dX9_cycle_52 : decode cX9_cycle 52 = .ok (.lload_n 2, 1) := by decide +kernel
theorem dX9_cycle_53 : decode cX9_cycle 53 = .ok (.lstore_n 2, 1) := by decide +kernel
theorem dX9_cycle_54 : decode cX9_cycle 54 = .ok (.iinc 4 1, 3) := by decide +kernel
theorem dX9_cycle_57 : decode cX9_cycle 57 = .ok (.goto (-40), 3) := by decide +kernel
theorem dX9_cycle_60 : decode cX9_cycle 60 = .ok (.lload_n 2, 1) := by decide +kernel
theorem dX9_cycle_61 : decode cX9_cycle 61 = .ok (.lreturn, 1) := by decide +kernel
theorem dX9_doCrash_0 : decode cX9_doCrash 0 = .ok (.iload_n 1, 1) := by decide +kernel
theorem dX9_doCrash_1 : decode cX9_doCrash 1 = .ok (.iload_n 2, 1) := by decide +kernel
theorem dX9_doCrash_2 : decode cX9_doCrash 2 = .ok (.if_icmp .eq 18, 3) := by decide +kernel
theorem dX9_doCrash_5 : decode cX9_doCrash 5 = .ok (.aload_n 0, 1) := by decide +kernel
theorem dX9_doCrash_6 : decode cX9_doCrash 6 = .ok (.iload_n 1, 1) := by decide +kernel
theorem dX9_doCrash_7 : decode cX9_doCrash 7 = .ok (.iconst 3, 1) := by decide +kernel
theorem dX9_doCrash_8 : decode cX9_doCrash 8 = .ok (.invokevirtual 143, 3) := by decide +kernel
theorem dX9_doCrash_11 : decode cX9_doCrash 11 = .ok (.aload_n 0, 1) := by decide +kernel
theorem dX9_doCrash_12 : decode cX9_doCrash 12 = .ok (.iload_n 2, 1) := by decide +kernel
theorem dX9_doCrash_13 : decode cX9_doCrash 13 = .ok (.iconst 3, 1) := by decide +kernel
theorem dX9_doCrash_14 : decode cX9_doCrash 14 = .ok (.invokevirtual 143, 3) := by decide +kernel
theorem dX9_doCrash_17 : decode cX9_doCrash 17 = .ok (.if_icmp .eq 5, 3) := by decide +kernel
theorem dX9_doCrash_20 : decode cX9_doCrash 20 = .ok (.iconst 0, 1) := by decide +kernel
theorem dX9_doCrash_21 : decode cX9_doCrash 21 = .ok (.ireturn, 1) := by decide +kernel
theorem dX9_doCrash_22 : decode cX9_doCrash 22 = .ok (.aload_n 0, 1) := by decide +kernel
theorem dX9_doCrash_23 : decode cX9_doCrash 23 = .ok (.iload_n 1, 1) := by decide +kernel
theorem dX9_doCrash_24 : decode cX9_doCrash 24 = .ok (.invokevirtual 152, 3) := by decide +kernel
theorem dX9_doCrash_27 : decode cX9_doCrash 27 = .ok (.i2l, 1) := by decide +kernel
theorem dX9_doCrash_28 : decode cX9_doCrash 28 = .ok (.aload_n 0, 1) := by decide +kernel
theorem dX9_doCrash_29 : decode cX9_doCrash 29 = .ok (.iload_n 2, 1) := by decide +kernel
theorem dX9_doCrash_30 : decode cX9_doCrash 30 = .ok (.invokevirtual 152, 3) := by decide +kernel
theorem dX9_doCrash_33 : decode cX9_doCrash 33 = .ok (.i2l, 1) := by decide +kernel
theorem dX9_doCrash_34 : decode cX9_doCrash 34 = .ok (.invokestatic 204, 3) := by decide +kernel
theorem dX9_doCrash_37 : decode cX9_doCrash 37 = .ok (.l2i, 1) := by decide +kernel
theorem dX9_doCrash_38 : decode cX9_doCrash 38 = .ok (.istore_n 3, 1) := by decide +kernel
theorem dX9_doCrash_39 : decode cX9_doCrash 39 = .ok (.iconst 0, 1) := by decide +kernel
theorem dX9_doCrash_40 : decode cX9_doCrash 40 = .ok (.istore 4, 2) := by decide +kernel
theorem dX9_doCrash_42 : decode cX9_doCrash 42 = .ok (.iconst 0, 1) := by decide +kernel
theorem dX9_doCrash_43 : decode cX9_doCrash 43 = .ok (.istore 5, 2) := by decide +kernel
theorem dX9_doCrash_45 : decode cX9_doCrash 45 = .ok (.iload 5, 2) := by decide +kernel
theorem dX9_doCrash_47 : decode cX9_doCrash 47 = .ok (.aload_n 0, 1) := by decide +kernel
theorem dX9_doCrash_48 : decode cX9_doCrash 48 = .ok (.iload_n 1, 1) := by decide +kernel
theorem dX9_doCrash_49 : decode cX9_doCrash 49 = .ok (.invokevirtual 157, 3) := by decide +kernel
theorem dX9_doCrash_52 : decode cX9_doCrash 52 = .ok (.if_icmp .ge 60, 3) := by decide +kernel
theorem dX9_doCrash_55 : decode cX9_doCrash 55 = .ok (.iconst 0, 1) := by decide +kernel
theorem dX9_doCrash_56 : decode cX9_doCrash 56 = .ok (.istore 6, 2) := by decide +kernel
theorem dX9_doCrash_58 : decode cX9_doCrash 58 = .ok (.iload 6, 2) := by decide +kernel
theorem dX9_doCrash_60 : decode cX9_doCrash 60 = .ok (.aload_n 0, 1) := by decide +kernel
theorem dX9_doCrash_61 : decode cX9_doCrash 61 = .ok (.iload_n 2, 1) := by decide +kernel
theorem dX9_doCrash_62 : decode cX9_doCrash 62 = .ok (.invokevirtual 157, 3) := by decide +kernel
theorem dX9_doCrash_65 : decode cX9_doCrash 65 = .ok (.if_icmp .ge 41, 3) := by decide +kernel
theorem dX9_doCrash_68 : decode cX9_doCrash 68 = .ok (.iload 4, 2) := by decide +kernel
theorem dX9_doCrash_70 : decode cX9_doCrash 70 = .ok (.ifCond .ne 23, 3) := by decide +kernel
theorem dX9_doCrash_73 : decode cX9_doCrash 73 = .ok (.aload_n 0, 1) := by decide +kernel
theorem dX9_doCrash_74 : decode cX9_doCrash 74 = .ok (.iload_n 1, 1) := by decide +kernel
theorem dX9_doCrash_75 : decode cX9_doCrash 75 = .ok (.iload 5, 2) := by decide +kernel
theorem dX9_doCrash_77 : decode cX9_doCrash 77 = .ok (.invokevirtual 160, 3) := by decide +kernel
theorem dX9_doCrash_80 : decode cX9_doCrash 80 = .ok (.aload_n 0, 1) := by decide +kernel
theorem dX9_doCrash_81 : decode cX9_doCrash 81 = .ok (.iload_n 2, 1) := by decide +kernel
theorem dX9_doCrash_82 : decode cX9_doCrash 82 = .ok (.iload 6, 2) := by decide +kernel
theorem dX9_doCrash_84 : decode cX9_doCrash 84 = .ok (.invokevirtual 160, 3) := by decide +kernel
theorem dX9_doCrash_87 : decode cX9_doCrash 87 = .ok (.isub, 1) := by decide +kernel
theorem dX9_doCrash_88 : decode cX9_doCrash 88 = .ok (.iload_n 3, 1) := by decide +kernel
theorem dX9_doCrash_89 : decode cX9_doCrash 89 = .ok (.irem, 1) := by decide +kernel
theorem dX9_doCrash_90 : decode cX9_doCrash 90 = .ok (.ifCond .ne 7, 3) := by decide +kernel
theorem dX9_doCrash_93 : decode cX9_doCrash 93 = .ok (.iconst 1, 1) := by decide +kernel
theorem dX9_doCrash_94 : decode cX9_doCrash 94 = .ok (.goto 4, 3) := by decide +kernel
theorem dX9_doCrash_97 : decode cX9_doCrash 97 = .ok (.iconst 0, 1) := by decide +kernel
theorem dX9_doCrash_98 : decode cX9_doCrash 98 = .ok (.istore 4, 2) := by decide +kernel
theorem dX9_doCrash_100 : decode cX9_doCrash 100 = .ok (.iinc 6 1, 3) := by decide +kernel
theorem dX9_doCrash_103 : decode cX9_doCrash 103 = .ok (.goto (-45), 3) := by decide +kernel
theorem dX9_doCrash_106 : decode cX9_doCrash 106 = .ok (.iinc 5 1, 3) := by decide +kernel
theorem dX9_doCrash_109 : decode cX9_doCrash 109 = .ok (.goto (-64), 3) := by decide +kernel
theorem dX9_doCrash_112 : decode cX9_doCrash 112 = .ok (.iload 4, 2) := by decide +kernel
theorem dX9_doCrash_114 : decode cX9_doCrash 114 = .ok (.ireturn, 1) := by decide +kernel
theorem dX9_crashOf_0 : decode cX9_crashOf 0 = .ok (.iconst 0, 1) := by decide +kernel
theorem dX9_crashOf_1 : decode cX9_crashOf 1 = .ok (.istore_n 2, 1) := by decide +kernel
theorem dX9_crashOf_2 : decode cX9_crashOf 2 = .ok (.iconst 0, 1) := by decide +kernel
theorem dX9_crashOf_3 : decode cX9_crashOf 3 = .ok (.istore_n 3, 1) := by decide +kernel
theorem dX9_crashOf_4 : decode cX9_crashOf 4 = .ok (.iload_n 3, 1) := by decide +kernel
theorem dX9_crashOf_5 : decode cX9_crashOf 5 = .ok (.aload_n 0, 1) := by decide +kernel
theorem dX9_crashOf_6 : decode cX9_crashOf 6 = .ok (.getfield 7, 3) := by decide +kernel
theorem dX9_crashOf_9 : decode cX9_crashOf 9 = .ok (.iconst 0, 1) := by decide +kernel
theorem dX9_crashOf_10 : decode cX9_crashOf 10 = .ok (.iaload, 1) := by decide +kernel
theorem dX9_crashOf_11 : decode cX9_crashOf 11 = .ok (.if_icmp .ge 23, 3) := by decide +kernel
theorem dX9_crashOf_14 : decode cX9_crashOf 14 = .ok (.iload_n 2, 1) := by decide +kernel
theorem dX9_crashOf_15 : decode cX9_crashOf 15 = .ok (.aload_n 0, 1) := by decide +kernel
theorem dX9_crashOf_16 : decode cX9_crashOf 16 = .ok (.iload_n 1, 1) := by decide +kernel
theorem dX9_crashOf_17 : decode cX9_crashOf 17 = .ok (.iload_n 3, 1) := by decide +kernel
theorem dX9_crashOf_18 : decode cX9_crashOf 18 = .ok (.invokevirtual 242, 3) := by decide +kernel
theorem dX9_crashOf_21 : decode cX9_crashOf 21 = .ok (.invokestatic 173, 3) := by decide +kernel
theorem dX9_crashOf_24 : decode cX9_crashOf 24 = .ok (.iload_n 3, 1) := by decide +kernel
theorem dX9_crashOf_25 : decode cX9_crashOf 25 = .ok (.ishl, 1) := by decide +kernel
theorem dX9_crashOf_26 : decode cX9_crashOf 26 = .ok (.ior, 1) := by decide +kernel
theorem dX9_crashOf_27 : decode cX9_crashOf 27 = .ok (.istore_n 2, 1) := by decide +kernel
theorem dX9_crashOf_28 : decode cX9_crashOf 28 = .ok (.iinc 3 1, 3) := by decide +kernel
theorem dX9_crashOf_31 : decode cX9_crashOf 31 = .ok (.goto (-27), 3) := by decide +kernel
theorem dX9_crashOf_34 : decode cX9_crashOf 34 = .ok (.iload_n 2, 1) := by decide +kernel
theorem dX9_crashOf_35 : decode cX9_crashOf 35 = .ok (.ireturn, 1) := by decide +kernel
theorem dX9_crash_0 : decode cX9_crash 0 = .ok (.aload_n 0, 1) := by decide +kernel
theorem dX9_crash_1 : decode cX9_crash 1 = .ok (.iload_n 1, 1) := by decide +kernel
theorem dX9_crash_2 : decode cX9_crash 2 = .ok (.invokevirtual 146, 3) := by decide +kernel
theorem dX9_crash_5 : decode cX9_crash 5 = .ok (.ifCond .eq 11, 3) := by decide +kernel
theorem dX9_crash_8 : decode cX9_crash 8 = .ok (.aload_n 0, 1) := by decide +kernel
theorem dX9_crash_9 : decode cX9_crash 9 = .ok (.iload_n 1, 1) := by decide +kernel
theorem dX9_crash_10 : decode cX9_crash 10 = .ok (.invokevirtual 245, 3) := by decide +kernel
theorem dX9_crash_13 : decode cX9_crash 13 = .ok (.goto 4, 3) := by decide +kernel
theorem dX9_crash_16 : decode cX9_crash 16 = .ok (.iconst (-1), 1) := by decide +kernel
theorem dX9_crash_17 : decode cX9_crash 17 = .ok (.ireturn, 1) := by decide +kernel
theorem dX9_allCrash_0 : decode cX9_allCrash 0 = .ok (.iconst 0, 1) := by decide +kernel
theorem dX9_allCrash_1 : decode cX9_allCrash 1 = .ok (.istore_n 1, 1) := by decide +kernel
theorem dX9_allCrash_2 : decode cX9_allCrash 2 = .ok (.iconst 0, 1) := by decide +kernel
theorem dX9_allCrash_3 : decode cX9_allCrash 3 = .ok (.istore_n 2, 1) := by decide +kernel
theorem dX9_allCrash_4 : decode cX9_allCrash 4 = .ok (.iload_n 2, 1) := by decide +kernel
theorem dX9_allCrash_5 : decode cX9_allCrash 5 = .ok (.aload_n 0, 1) := by decide +kernel
theorem dX9_allCrash_6 : decode cX9_allCrash 6 = .ok (.getfield 7, 3) := by decide +kernel
theorem dX9_allCrash_9 : decode cX9_allCrash 9 = .ok (.iconst 0, 1) := by decide +kernel
theorem dX9_allCrash_10 : decode cX9_allCrash 10 = .ok (.iaload, 1) := by decide +kernel
theorem dX9_allCrash_11 : decode cX9_allCrash 11 = .ok (.if_icmp .ge 30, 3) := by decide +kernel
theorem dX9_allCrash_14 : decode cX9_allCrash 14 = .ok (.iload_n 1, 1) := by decide +kernel
theorem dX9_allCrash_15 : decode cX9_allCrash 15 = .ok (.aload_n 0, 1) := by decide +kernel
theorem dX9_allCrash_16 : decode cX9_allCrash 16 = .ok (.iload_n 2, 1) := by decide +kernel
theorem dX9_allCrash_17 : decode cX9_allCrash 17 = .ok (.invokevirtual 245, 3) := by decide +kernel
theorem dX9_allCrash_20 : decode cX9_allCrash 20 = .ok (.ifCond .eq 7, 3) := by decide +kernel
theorem dX9_allCrash_23 : decode cX9_allCrash 23 = .ok (.iconst 1, 1) := by decide +kernel
theorem dX9_allCrash_24 : decode cX9_allCrash 24 = .ok (.goto 4, 3) := by decide +kernel
theorem dX9_allCrash_27 : decode cX9_allCrash 27 = .ok (.iconst 0, 1) := by decide +kernel
theorem dX9_allCrash_28 : decode cX9_allCrash 28 = .ok (.invokestatic 173, 3) := by decide +kernel
theorem dX9_allCrash_31 : decode cX9_allCrash 31 = .ok (.iload_n 2, 1) := by decide +kernel
theorem dX9_allCrash_32 : decode cX9_allCrash 32 = .ok (.ishl, 1) := by decide +kernel
theorem dX9_allCrash_33 : decode cX9_allCrash 33 = .ok (.ior, 1) := by decide +kernel
theorem dX9_allCrash_34 : decode cX9_allCrash 34 = .ok (.istore_n 1, 1) := by decide +kernel
theorem dX9_allCrash_35 : decode cX9_allCrash 35 = .ok (.iinc 2 1, 3) := by decide +kernel
theorem dX9_allCrash_38 : decode cX9_allCrash 38 = .ok (.goto (-34), 3) := by decide +kernel
theorem dX9_allCrash_41 : decode cX9_allCrash 41 = .ok (.iload_n 1, 1) := by decide +kernel
theorem dX9_allCrash_42 : decode cX9_allCrash 42 = .ok (.ireturn, 1) := by decide +kernel
theorem dX9_bitsOf_0 : decode cX9_bitsOf 0 = .ok (.iconst 0, 1) := by decide +kernel
theorem dX9_bitsOf_1 : decode cX9_bitsOf 1 = .ok (.istore_n 1, 1) := by decide +kernel
theorem dX9_bitsOf_2 : decode cX9_bitsOf 2 = .ok (.iconst 0, 1) := by decide +kernel
theorem dX9_bitsOf_3 : decode cX9_bitsOf 3 = .ok (.istore_n 2, 1) := by decide +kernel
theorem dX9_bitsOf_4 : decode cX9_bitsOf 4 = .ok (.iload_n 2, 1) := by decide +kernel
theorem dX9_bitsOf_5 : decode cX9_bitsOf 5 = .ok (.bipush 6, 2) := by decide +kernel
theorem dX9_bitsOf_7 : decode cX9_bitsOf 7 = .ok (.if_icmp .ge 17, 3) := by decide +kernel
theorem dX9_bitsOf_10 : decode cX9_bitsOf 10 = .ok (.iload_n 1, 1) := by decide +kernel
theorem dX9_bitsOf_11 : decode cX9_bitsOf 11 = .ok (.iload_n 0, 1) := by decide +kernel
theorem dX9_bitsOf_12 : decode cX9_bitsOf 12 = .ok (.iload_n 2, 1) := by decide +kernel
theorem dX9_bitsOf_13 : decode cX9_bitsOf 13 = .ok (.ishr, 1) := by decide +kernel
theorem dX9_bitsOf_14 : decode cX9_bitsOf 14 = .ok (.iconst 1, 1) := by decide +kernel
theorem dX9_bitsOf_15 : decode cX9_bitsOf 15 = .ok (.iand, 1) := by decide +kernel
theorem dX9_bitsOf_16 : decode cX9_bitsOf 16 = .ok (.iadd, 1) := by decide +kernel
theorem dX9_bitsOf_17 : decode cX9_bitsOf 17 = .ok (.istore_n 1, 1) := by decide +kernel
theorem dX9_bitsOf_18 : decode cX9_bitsOf 18 = .ok (.iinc 2 1, 3) := by decide +kernel
theorem dX9_bitsOf_21 : decode cX9_bitsOf 21 = .ok (.goto (-17), 3) := by decide +kernel
theorem dX9_bitsOf_24 : decode cX9_bitsOf 24 = .ok (.iload_n 1, 1) := by decide +kernel
theorem dX9_bitsOf_25 : decode cX9_bitsOf 25 = .ok (.ireturn, 1) := by decide +kernel
theorem dX9_first_0 : decode cX9_first 0 = .ok (.lload_n 1, 1) := by decide +kernel
theorem dX9_first_1 : decode cX9_first 1 = .ok (.invokestatic 165, 3) := by decide +kernel
theorem dX9_first_4 : decode cX9_first 4 = .ok (.ifCond .eq 13, 3) := by decide +kernel
theorem dX9_first_7 : decode cX9_first 7 = .ok (.iload_n 3, 1) := by decide +kernel
theorem dX9_first_8 : decode cX9_first 8 = .ok (.i2l, 1) := by decide +kernel
theorem dX9_first_9 : decode cX9_first 9 = .ok (.lconst 0, 1) := by decide +kernel
theorem dX9_first_10 : decode cX9_first 10 = .ok (.lconst 1, 1) := by decide +kernel
theorem dX9_first_11 : decode cX9_first 11 = .ok (.invokestatic 71, 3) := by decide +kernel
theorem dX9_first_14 : decode cX9_first 14 = .ok (.ifCond .ne 7, 3) := by decide +kernel
theorem dX9_first_17 : decode cX9_first 17 = .ok (.ldc2_w 177, 3) := by decide +kernel
theorem dX9_first_20 : decode cX9_first 20 = .ok (.lreturn, 1) := by decide +kernel
theorem dX9_first_21 : decode cX9_first 21 = .ok (.ldc2_w 177, 3) := by decide +kernel
theorem dX9_first_24 : decode cX9_first 24 = .ok (.lstore 4, 2) := by decide +kernel
theorem dX9_first_26 : decode cX9_first 26 = .ok (.bipush (-4), 2) := by decide +kernel
theorem dX9_first_28 : decode cX9_first 28 = .ok (.istore 6, 2) := by decide +kernel
theorem dX9_first_30 : decode cX9_first 30 = .ok (.iconst 0, 1) := by decide +kernel
theorem dX9_first_31 : decode cX9_first 31 = .ok (.istore 7, 2) := by decide +kernel
theorem dX9_first_33 : decode cX9_first 33 = .ok (.iload 7, 2) := by decide +kernel
theorem dX9_first_35 : decode cX9_first 35 = .ok (.aload_n 0, 1) := by decide +kernel
theorem dX9_first_36 : decode cX9_first 36 = .ok (.getfield 7, 3) := by decide +kernel
theorem dX9_first_39 : decode cX9_first 39 = .ok (.iconst 0, 1) := by decide +kernel
theorem dX9_first_40 : decode cX9_first 40 = .ok (.iaload, 1) := by decide +kernel
theorem dX9_first_41 : decode cX9_first 41 = .ok (.if_icmp .ge 123, 3) := by decide +kernel
theorem dX9_first_44 : decode cX9_first 44 = .ok (.iload 7, 2) := by decide +kernel
theorem dX9_first_46 : decode cX9_first 46 = .ok (.iconst 1, 1) := by decide +kernel
theorem dX9_first_47 : decode cX9_first 47 = .ok (.iadd, 1) := by decide +kernel
theorem dX9_first_48 : decode cX9_first 48 = .ok (.istore 8, 2) := by decide +kernel
theorem dX9_first_50 : decode cX9_first 50 = .ok (.iload 8, 2) := by decide +kernel
theorem dX9_first_52 : decode cX9_first 52 = .ok (.aload_n 0, 1) := by decide +kernel
theorem dX9_first_53 : decode cX9_first 53 = .ok (.getfield 7, 3) := by decide +kernel
theorem dX9_first_56 : decode cX9_first 56 = .ok (.iconst 0, 1) := by decide +kernel
theorem dX9_first_57 : decode cX9_first 57 = .ok (.iaload, 1) := by decide +kernel
theorem dX9_first_58 : decode cX9_first 58 = .ok (.if_icmp .ge 100, 3) := by decide +kernel
theorem dX9_first_61 : decode cX9_first 61 = .ok (.aload_n 0, 1) := by decide +kernel
theorem dX9_first_62 : decode cX9_first 62 = .ok (.iload 7, 2) := by decide +kernel
theorem dX9_first_64 : decode cX9_first 64 = .ok (.iload 8, 2) := by decide +kernel
theorem dX9_first_66 : decode cX9_first 66 = .ok (.invokevirtual 242, 3) := by decide +kernel
theorem dX9_first_69 : decode cX9_first 69 = .ok (.ifCond .eq 15, 3) := by decide +kernel
theorem dX9_first_72 : decode cX9_first 72 = .ok (.aload_n 0, 1) := by decide +kernel
theorem dX9_first_73 : decode cX9_first 73 = .ok (.iload 7, 2) := by decide +kernel
theorem dX9_first_75 : decode cX9_first 75 = .ok (.iload 8, 2) := by decide +kernel
theorem dX9_first_77 : decode cX9_first 77 = .ok (.lload_n 1, 1) := by decide +kernel
theorem dX9_first_78 : decode cX9_first 78 = .ok (.invokevirtual 235, 3) := by decide +kernel
theorem dX9_first_81 : decode cX9_first 81 = .ok (.goto 6, 3) := by decide +kernel
theorem dX9_first_84 : decode cX9_first 84 = .ok (.ldc2_w 177, 3) := by decide +kernel
theorem dX9_first_87 : decode cX9_first 87 = .ok (.lstore 9, 2) := by decide +kernel
theorem dX9_first_89 : decode cX9_first 89 = .ok (.lload 9, 2) := by decide +kernel
theorem dX9_first_91 : decode cX9_first 91 = .ok (.lconst 0, 1) := by decide +kernel
theorem dX9_first_92 : decode cX9_first 92 = .ok (.lcmp, 1) := by decide +kernel
theorem dX9_first_93 : decode cX9_first 93 = .ok (.ifCond .lt 22, 3) := by decide +kernel
theorem dX9_first_96 : decode cX9_first 96 = .ok (.lload 4, 2) := by decide +kernel
theorem dX9_first_98 : decode cX9_first 98 = .ok (.lconst 0, 1) := by decide +kernel
theorem dX9_first_99 : decode cX9_first 99 = .ok (.lcmp, 1) := by decide +kernel
theorem dX9_first_100 : decode cX9_first 100 = .ok (.ifCond .lt 11, 3) := by decide +kernel
theorem dX9_first_103 : decode cX9_first 103 = .ok (.lload 9, 2) := by decide +kernel
theorem dX9_first_105 : decode cX9_first 105 = .ok (.lload 4, 2) := by decide +kernel
theorem dX9_first_107 : decode cX9_first 107 = .ok (.lcmp, 1) := by decide +kernel
theorem dX9_first_108 : decode cX9_first 108 = .ok (.ifCond .ge 7, 3) := by decide +kernel
theorem dX9_first_111 : decode cX9_first 111 = .ok (.iconst 1, 1) := by decide +kernel
theorem dX9_first_112 : decode cX9_first 112 = .ok (.goto 4, 3) := by decide +kernel
theorem dX9_first_115 : decode cX9_first 115 = .ok (.iconst 0, 1) := by decide +kernel
theorem dX9_first_116 : decode cX9_first 116 = .ok (.istore 11, 2) := by decide +kernel
theorem dX9_first_118 : decode cX9_first 118 = .ok (.iload 11, 2) := by decide +kernel
theorem dX9_first_120 : decode cX9_first 120 = .ok (.ifCond .eq 8, 3) := by decide +kernel
theorem dX9_first_123 : decode cX9_first 123 = .ok (.lload 9, 2) := by decide +kernel
theorem dX9_first_125 : decode cX9_first 125 = .ok (.goto 5, 3) := by decide +kernel
theorem dX9_first_128 : decode cX9_first 128 = .ok (.lload 4, 2) := by decide +kernel
theorem dX9_first_130 : decode cX9_first 130 = .ok (.lstore 4, 2) := by decide +kernel
theorem dX9_first_132 : decode cX9_first 132 = .ok (.iload 11, 2) := by decide +kernel
theorem dX9_first_134 : decode cX9_first 134 = .ok (.ifCond .eq 14, 3) := by decide +kernel
theorem dX9_first_137 : decode cX9_first 137 = .ok (.bipush 10, 2) := by decide +kernel
theorem dX9_first_139 : decode cX9_first 139 = .ok (.iload 7, 2) := by decide +kernel
theorem dX9_first_141 : decode cX9_first 141 = .ok (.imul, 1) := by decide +kernel
theorem dX9_first_142 : decode cX9_first 142 = .ok (.iload 8, 2) := by decide +kernel
theorem dX9_first_144 : decode cX9_first 144 = .ok (.iadd, 1) := by decide +kernel
theorem dX9_first_145 : decode cX9_first 145 = .ok (.goto 5, 3) := by decide +kernel
theorem dX9_first_148 : decode cX9_first 148 = .ok (.iload 6, 2) := by decide +kernel
theorem dX9_first_150 : decode cX9_first 150 = .ok (.istore 6, 2) := by decide +kernel
theorem dX9_first_152 : decode cX9_first 152 = .ok (.iinc 8 1, 3) := by decide +kernel
theorem dX9_first_155 : decode cX9_first 155 = .ok (.goto (-105), 3) := by decide +kernel
theorem dX9_first_158 : decode cX9_first 158 = .ok (.iinc 7 1, 3) := by decide +kernel
theorem dX9_first_161 : decode cX9_first 161 = .ok (.goto (-128), 3) := by decide +kernel
theorem dX9_first_164 : decode cX9_first 164 = .ok (.lload 4, 2) := by decide +kernel
theorem dX9_first_166 : decode cX9_first 166 = .ok (.invokestatic 189, 3) := by decide +kernel
theorem dX9_first_169 : decode cX9_first 169 = .ok (.ldc2_w 183, 3) := by decide +kernel
theorem dX9_first_172 : decode cX9_first 172 = .ok (.lcmp, 1) := by decide +kernel
theorem dX9_first_173 : decode cX9_first 173 = .ok (.ifCond .ne 9, 3) := by decide +kernel
theorem dX9_first_176 : decode cX9_first 176 = .ok (.ldc2_w 183, 3) := by decide +kernel
theorem dX9_first_179 : decode cX9_first 179 = .ok (.goto 15, 3) := by decide +kernel
theorem dX9_first_182 : decode cX9_first 182 = .ok (.iload_n 3, 1) := by decide +kernel
theorem dX9_first_183 : decode cX9_first 183 = .ok (.ifCond .ne 8, 3) := by decide +kernel
theorem dX9_first_186 : decode cX9_first 186 = .ok (.lload 4, 2) := by decide +kernel
theorem dX9_first_188 : decode cX9_first 188 = .ok (.goto 6, 3) := by decide +kernel
theorem dX9_first_191 : decode cX9_first 191 = .ok (.iload 6, 2) := by decide +kernel
theorem dX9_first_193 : decode cX9_first 193 = .ok (.i2l, 1) := by decide +kernel
theorem dX9_first_194 : decode cX9_first 194 = .ok (.lreturn, 1) := by decide +kernel
theorem dX9_ofFour_0 : decode cX9_ofFour 0 = .ok (.lload_n 0, 1) := by decide +kernel
theorem dX9_ofFour_1 : decode cX9_ofFour 1 = .ok (.ldc2_w 248, 3) := by decide +kernel
theorem dX9_ofFour_4 : decode cX9_ofFour 4 = .ok (.lrem, 1) := by decide +kernel
theorem dX9_ofFour_5 : decode cX9_ofFour 5 = .ok (.l2i, 1) := by decide +kernel
theorem dX9_ofFour_6 : decode cX9_ofFour 6 = .ok (.istore_n 2, 1) := by decide +kernel
theorem dX9_ofFour_7 : decode cX9_ofFour 7 = .ok (.iload_n 2, 1) := by decide +kernel
theorem dX9_ofFour_8 : decode cX9_ofFour 8 = .ok (.sipush 366, 3) := by decide +kernel
theorem dX9_ofFour_11 : decode cX9_ofFour 11 = .ok (.if_icmp .ge 7, 3) := by decide +kernel
theorem dX9_ofFour_14 : decode cX9_ofFour 14 = .ok (.iconst 0, 1) := by decide +kernel
theorem dX9_ofFour_15 : decode cX9_ofFour 15 = .ok (.goto 14, 3) := by decide +kernel
theorem dX9_ofFour_18 : decode cX9_ofFour 18 = .ok (.iconst 1, 1) := by decide +kernel
theorem dX9_ofFour_19 : decode cX9_ofFour 19 = .ok (.iload_n 2, 1) := by decide +kernel
theorem dX9_ofFour_20 : decode cX9_ofFour 20 = .ok (.sipush 366, 3) := by decide +kernel
theorem dX9_ofFour_23 : decode cX9_ofFour 23 = .ok (.isub, 1) := by decide +kernel
theorem dX9_ofFour_24 : decode cX9_ofFour 24 = .ok (.sipush 365, 3) := by decide +kernel
theorem dX9_ofFour_27 : decode cX9_ofFour 27 = .ok (.idiv, 1) := by decide +kernel
theorem dX9_ofFour_28 : decode cX9_ofFour 28 = .ok (.iadd, 1) := by decide +kernel
theorem dX9_ofFour_29 : decode cX9_ofFour 29 = .ok (.ireturn, 1) := by decide +kernel
theorem dX9_dayOf_0 : decode cX9_dayOf 0 = .ok (.lload_n 0, 1) := by decide +kernel
theorem dX9_dayOf_1 : decode cX9_dayOf 1 = .ok (.ldc2_w 248, 3) := by decide +kernel
theorem dX9_dayOf_4 : decode cX9_dayOf 4 = .ok (.lrem, 1) := by decide +kernel
theorem dX9_dayOf_5 : decode cX9_dayOf 5 = .ok (.l2i, 1) := by decide +kernel
theorem dX9_dayOf_6 : decode cX9_dayOf 6 = .ok (.istore_n 2, 1) := by decide +kernel
theorem dX9_dayOf_7 : decode cX9_dayOf 7 = .ok (.iload_n 2, 1) := by decide +kernel
theorem dX9_dayOf_8 : decode cX9_dayOf 8 = .ok (.sipush 366, 3) := by decide +kernel
theorem dX9_dayOf_11 : decode cX9_dayOf 11 = .ok (.if_icmp .ge 7, 3) := by decide +kernel
theorem dX9_dayOf_14 : decode cX9_dayOf 14 = .ok (.iload_n 2, 1) := by decide +kernel
theorem dX9_dayOf_15 : decode cX9_dayOf 15 = .ok (.goto 12, 3) := by decide +kernel
theorem dX9_dayOf_18 : decode cX9_dayOf 18 = .ok (.iload_n 2, 1) := by decide +kernel
theorem dX9_dayOf_19 : decode cX9_dayOf 19 = .ok (.sipush 366, 3) := by decide +kernel
theorem dX9_dayOf_22 : decode cX9_dayOf 22 = .ok (.isub, 1) := by decide +kernel
theorem dX9_dayOf_23 : decode cX9_dayOf 23 = .ok (.sipush 365, 3) := by decide +kernel
theorem dX9_dayOf_26 : decode cX9_dayOf 26 = .ok (.irem, 1) := by decide +kernel
theorem dX9_dayOf_27 : decode cX9_dayOf 27 = .ok (.ireturn, 1) := by decide +kernel
theorem dX9_date_0 : decode cX9_date 0 = .ok (.lload_n 1, 1) := by decide +kernel
theorem dX9_date_1 : decode cX9_date 1 = .ok (.invokestatic 165, 3) := by decide +kernel
theorem dX9_date_4 : decode cX9_date 4 = .ok (.ifCond .eq 13, 3) := by decide +kernel
theorem dX9_date_7 : decode cX9_date 7 = .ok (.iload_n 3, 1) := by decide +kernel
theorem dX9_date_8 : decode cX9_date 8 = .ok (.i2l, 1) := by decide +kernel
theorem dX9_date_9 : decode cX9_date 9 = .ok (.lconst 0, 1) := by decide +kernel
theorem dX9_date_10 : decode cX9_date 10 = .ok (.lconst 1, 1) := by decide +kernel
theorem dX9_date_11 : decode cX9_date 11 = .ok (.invokestatic 71, 3) := by decide +kernel
theorem dX9_date_14 : decode cX9_date 14 = .ok (.ifCond .ne 7, 3) := by decide +kernel
theorem dX9_date_17 : decode cX9_date 17 = .ok (.ldc2_w 177, 3) := by decide +kernel
theorem dX9_date_20 : decode cX9_date 20 = .ok (.lreturn, 1) := by decide +kernel
theorem dX9_date_21 : decode cX9_date 21 = .ok (.iload_n 3, 1) := by decide +kernel
theorem dX9_date_22 : decode cX9_date 22 = .ok (.ifCond .ne 21, 3) := by decide +kernel
theorem dX9_date_25 : decode cX9_date 25 = .ok (.ldc2_w 155, 3) := by decide +kernel
theorem dX9_date_28 : decode cX9_date 28 = .ok (.lload_n 1, 1) := by decide +kernel
theorem dX9_date_29 : decode cX9_date 29 = .ok (.ldc2_w 248, 3) := by decide +kernel
theorem dX9_date_32 : decode cX9_date 32 = .ok (.ldiv, 1) := by decide +kernel
theorem dX9_date_33 : decode cX9_date 33 = .ok (.lmul, 1) := by decide +kernel
theorem dX9_date_34 : decode cX9_date 34 = .ok (.lload_n 1, 1) := by decide +kernel
theorem dX9_date_35 : decode cX9_date 35 = .ok (.invokestatic 250, 3) := by decide +kernel
theorem dX9_date_38 : decode cX9_date 38 = .ok (.i2l, 1) := by decide +kernel
theorem dX9_date_39 : decode cX9_date 39 = .ok (.ladd, 1) := by decide +kernel
theorem dX9_date_40 : decode cX9_date 40 = .ok (.goto 8, 3) := by decide +kernel
theorem dX9_date_43 : decode cX9_date 43 = .ok (.lload_n 1, 1) := by decide +kernel
theorem dX9_date_44 : decode cX9_date 44 = .ok (.invokestatic 254, 3) := by decide +kernel
theorem dX9_date_47 : decode cX9_date 47 = .ok (.i2l, 1) := by decide +kernel
theorem dX9_date_48 : decode cX9_date 48 = .ok (.lreturn, 1) := by decide +kernel
theorem dX9_day_0 : decode cX9_day 0 = .ok (.iload_n 1, 1) := by decide +kernel
theorem dX9_day_1 : decode cX9_day 1 = .ok (.i2l, 1) := by decide +kernel
theorem dX9_day_2 : decode cX9_day 2 = .ok (.lconst 0, 1) := by decide +kernel
theorem dX9_day_3 : decode cX9_day 3 = .ok (.ldc2_w 257, 3) := by decide +kernel
theorem dX9_day_6 : decode cX9_day 6 = .ok (.invokestatic 71, 3) := by decide +kernel
theorem dX9_day_9 : decode cX9_day 9 = .ok (.ifCond .eq 27, 3) := by decide +kernel
theorem dX9_day_12 : decode cX9_day 12 = .ok (.iload_n 2, 1) := by decide +kernel
theorem dX9_day_13 : decode cX9_day 13 = .ok (.i2l, 1) := by decide +kernel
theorem dX9_day_14 : decode cX9_day 14 = .ok (.lconst 0, 1) := by decide +kernel
theorem dX9_day_15 : decode cX9_day 15 = .ok (.iload_n 1, 1) := by decide +kernel
theorem dX9_day_16 : decode cX9_day 16 = .ok (.iconst 4, 1) := by decide +kernel
theorem dX9_day_17 : decode cX9_day 17 = .ok (.irem, 1) := by decide +kernel
theorem dX9_day_18 : decode cX9_day 18 = .ok (.ifCond .ne 9, 3) := by decide +kernel
theorem dX9_day_21 : decode cX9_day 21 = .ok (.ldc2_w 259, 3) := by decide +kernel
theorem dX9_day_24 : decode cX9_day 24 = .ok (.goto 6, 3) := by decide +kernel
theorem dX9_day_27 : decode cX9_day 27 = .ok (.ldc2_w 261, 3) := by decide +kernel
theorem dX9_day_30 : decode cX9_day 30 = .ok (.invokestatic 71, 3) := by decide +kernel
theorem dX9_day_33 : decode cX9_day 33 = .ok (.ifCond .ne 7, 3) := by decide +kernel
theorem dX9_day_36 : decode cX9_day 36 = .ok (.ldc2_w 177, 3) := by decide +kernel
theorem dX9_day_39 : decode cX9_day 39 = .ok (.lreturn, 1) := by decide +kernel
theorem dX9_day_40 : decode cX9_day 40 = .ok (.iload_n 1, 1) := by decide +kernel
theorem dX9_day_41 : decode cX9_day 41 = .ok (.iconst 4, 1) := by decide +kernel
theorem dX9_day_42 : decode cX9_day 42 = .ok (.irem, 1) := by decide +kernel
theorem dX9_day_43 : decode cX9_day 43 = .ok (.istore_n 3, 1) := by decide +kernel
theorem dX9_day_44 : decode cX9_day 44 = .ok (.ldc2_w 248, 3) := by decide +kernel
theorem dX9_day_47 : decode cX9_day 47 = .ok (.iload_n 1, 1) := by decide +kernel
theorem dX9_day_48 : decode cX9_day 48 = .ok (.iconst 4, 1) := by decide +kernel
theorem dX9_day_49 : decode cX9_day 49 = .ok (.idiv, 1) := by decide +kernel
theorem dX9_day_50 : decode cX9_day 50 = .ok (.i2l, 1) := by decide +kernel
theorem dX9_day_51 : decode cX9_day 51 = .ok (.lmul, 1) := by decide +kernel
theorem dX9_day_52 : decode cX9_day 52 = .ok (.iload_n 3, 1) := by decide +kernel
theorem dX9_day_53 : decode cX9_day 53 = .ok (.ifCond .ne 7, 3) := by decide +kernel
theorem dX9_day_56 : decode cX9_day 56 = .ok (.iconst 0, 1) := by decide +kernel
theorem dX9_day_57 : decode cX9_day 57 = .ok (.goto 14, 3) := by decide +kernel
theorem dX9_day_60 : decode cX9_day 60 = .ok (.sipush 366, 3) := by decide +kernel
theorem dX9_day_63 : decode cX9_day 63 = .ok (.sipush 365, 3) := by decide +kernel
theorem dX9_day_66 : decode cX9_day 66 = .ok (.iload_n 3, 1) := by decide +kernel
theorem dX9_day_67 : decode cX9_day 67 = .ok (.iconst 1, 1) := by decide +kernel
theorem dX9_day_68 : decode cX9_day 68 = .ok (.isub, 1) := by decide +kernel
theorem dX9_day_69 : decode cX9_day 69 = .ok (.imul, 1) := by decide +kernel
theorem dX9_day_70 : decode cX9_day 70 = .ok (.iadd, 1) := by decide +kernel
theorem dX9_day_71 : decode cX9_day 71 = .ok (.i2l, 1) := by decide +kernel
theorem dX9_day_72 : decode cX9_day 72 = .ok (.ladd, 1) := by decide +kernel
theorem dX9_day_73 : decode cX9_day 73 = .ok (.iload_n 2, 1) := by decide +kernel
theorem dX9_day_74 : decode cX9_day 74 = .ok (.i2l, 1) := by decide +kernel
theorem dX9_day_75 : decode cX9_day 75 = .ok (.ladd, 1) := by decide +kernel
theorem dX9_day_76 : decode cX9_day 76 = .ok (.lreturn, 1) := by decide +kernel
theorem dX9_doorOn_0 : decode cX9_doorOn 0 = .ok (.aload_n 0, 1) := by decide +kernel
theorem dX9_doorOn_1 : decode cX9_doorOn 1 = .ok (.iload_n 1, 1) := by decide +kernel
theorem dX9_doorOn_2 : decode cX9_doorOn 2 = .ok (.iconst 3, 1) := by decide +kernel
theorem dX9_doorOn_3 : decode cX9_doorOn 3 = .ok (.invokevirtual 143, 3) := by decide +kernel
theorem dX9_doorOn_6 : decode cX9_doorOn 6 = .ok (.istore 4, 2) := by decide +kernel
theorem dX9_doorOn_8 : decode cX9_doorOn 8 = .ok (.aload_n 0, 1) := by decide +kernel
theorem dX9_doorOn_9 : decode cX9_doorOn 9 = .ok (.getfield 7, 3) := by decide +kernel
theorem dX9_doorOn_12 : decode cX9_doorOn 12 = .ok (.bipush 68, 2) := by decide +kernel
theorem dX9_doorOn_14 : decode cX9_doorOn 14 = .ok (.iaload, 1) := by decide +kernel
theorem dX9_doorOn_15 : decode cX9_doorOn 15 = .ok (.iload 4, 2) := by decide +kernel
theorem dX9_doorOn_17 : decode cX9_doorOn 17 = .ok (.if_icmp .ne 34, 3) := by decide +kernel
theorem dX9_doorOn_20 : decode cX9_doorOn 20 = .ok (.lload_n 2, 1) := by decide +kernel
theorem dX9_doorOn_21 : decode cX9_doorOn 21 = .ok (.invokestatic 254, 3) := by decide +kernel
theorem dX9_doorOn_24 : decode cX9_doorOn 24 = .ok (.i2l, 1) := by decide +kernel
theorem dX9_doorOn_25 : decode cX9_doorOn 25 = .ok (.aload_n 0, 1) := by decide +kernel
theorem dX9_doorOn_26 : decode cX9_doorOn 26 = .ok (.getfield 7, 3) := by decide +kernel
theorem dX9_doorOn_29 : decode cX9_doorOn 29 = .ok (.bipush 69, 2) := by decide +kernel
theorem dX9_doorOn_31 : decode cX9_doorOn 31 = .ok (.iaload, 1) := by decide +kernel
theorem dX9_doorOn_32 : decode cX9_doorOn 32 = .ok (.i2l, 1) := by decide +kernel
theorem dX9_doorOn_33 : decode cX9_doorOn 33 = .ok (.aload_n 0, 1) := by decide +kernel
theorem dX9_doorOn_34 : decode cX9_doorOn 34 = .ok (.getfield 7, 3) := by decide +kernel
theorem dX9_doorOn_37 : decode cX9_doorOn 37 = .ok (.bipush 70, 2) := by decide +kernel
theorem dX9_doorOn_39 : decode cX9_doorOn 39 = .ok (.iaload, 1) := by decide +kernel
theorem dX9_doorOn_40 : decode cX9_doorOn 40 = .ok (.i2l, 1) := by decide +kernel
theorem dX9_doorOn_41 : decode cX9_doorOn 41 = .ok (.invokestatic 71, 3) := by decide +kernel
theorem dX9_doorOn_44 : decode cX9_doorOn 44 = .ok (.ifCond .eq 7, 3) := by decide +kernel
theorem dX9_doorOn_47 : decode cX9_doorOn 47 = .ok (.iconst 1, 1) := by decide +kernel
theorem dX9_doorOn_48 : decode cX9_doorOn 48 = .ok (.goto 4, 3) := by decide +kernel
theorem dX9_doorOn_51 : decode cX9_doorOn 51 = .ok (.iconst 0, 1) := by decide +kernel
theorem dX9_doorOn_52 : decode cX9_doorOn 52 = .ok (.istore 5, 2) := by decide +kernel
theorem dX9_doorOn_54 : decode cX9_doorOn 54 = .ok (.iload 5, 2) := by decide +kernel
theorem dX9_doorOn_56 : decode cX9_doorOn 56 = .ok (.ifCond .eq 13, 3) := by decide +kernel
theorem dX9_doorOn_59 : decode cX9_doorOn 59 = .ok (.iload 4, 2) := by decide +kernel
theorem dX9_doorOn_61 : decode cX9_doorOn 61 = .ok (.iconst 1, 1) := by decide +kernel
theorem dX9_doorOn_62 : decode cX9_doorOn 62 = .ok (.iadd, 1) := by decide +kernel
theorem dX9_doorOn_63 : decode cX9_doorOn 63 = .ok (.bipush 9, 2) := by decide +kernel
theorem dX9_doorOn_65 : decode cX9_doorOn 65 = .ok (.irem, 1) := by decide +kernel
theorem dX9_doorOn_66 : decode cX9_doorOn 66 = .ok (.goto 5, 3) := by decide +kernel
theorem dX9_doorOn_69 : decode cX9_doorOn 69 = .ok (.iload 4, 2) := by decide +kernel
theorem dX9_doorOn_71 : decode cX9_doorOn 71 = .ok (.ireturn, 1) := by decide +kernel
theorem dX9_by_0 : decode cX9_by 0 = .ok (.aload_n 0, 1) := by decide +kernel
theorem dX9_by_1 : decode cX9_by 1 = .ok (.iload_n 1, 1) := by decide +kernel
theorem dX9_by_2 : decode cX9_by 2 = .ok (.invokevirtual 146, 3) := by decide +kernel
theorem dX9_by_5 : decode cX9_by 5 = .ok (.ifCond .eq 10, 3) := by decide +kernel
theorem dX9_by_8 : decode cX9_by 8 = .ok (.lload_n 2, 1) := by decide +kernel
theorem dX9_by_9 : decode cX9_by 9 = .ok (.invokestatic 165, 3) := by decide +kernel
theorem dX9_by_12 : decode cX9_by 12 = .ok (.ifCond .ne 7, 3) := by decide +kernel
theorem dX9_by_15 : decode cX9_by 15 = .ok (.iconst (-1), 1) := by decide +kernel
theorem dX9_by_16 : decode cX9_by 16 = .ok (.goto 23, 3) := by decide +kernel
theorem dX9_by_19 : decode cX9_by 19 = .ok (.aload_n 0, 1) := by decide +kernel
theorem dX9_by_20 : decode cX9_by 20 = .ok (.iload_n 1, 1) := by decide +kernel
theorem dX9_by_21 : decode cX9_by 21 = .ok (.lload_n 2, 1) := by decide +kernel
theorem dX9_by_22 : decode cX9_by 22 = .ok (.invokevirtual 169, 3) := by decide +kernel
theorem dX9_by_25 : decode cX9_by 25 = .ok (.ifCond .eq 12, 3) := by decide +kernel
theorem dX9_by_28 : decode cX9_by 28 = .ok (.aload_n 0, 1) := by decide +kernel
theorem dX9_by_29 : decode cX9_by 29 = .ok (.iload_n 1, 1) := by decide +kernel
theorem dX9_by_30 : decode cX9_by 30 = .ok (.lload_n 2, 1) := by decide +kernel
theorem dX9_by_31 : decode cX9_by 31 = .ok (.invokevirtual 263, 3) := by decide +kernel
theorem dX9_by_34 : decode cX9_by 34 = .ok (.goto 5, 3) := by decide +kernel
theorem dX9_by_37 : decode cX9_by 37 = .ok (.bipush (-4), 2) := by decide +kernel
theorem dX9_by_39 : decode cX9_by 39 = .ok (.ireturn, 1) := by decide +kernel
theorem dX9_areMany_0 : decode cX9_areMany 0 = .ok (.lload_n 0, 1) := by decide +kernel
theorem dX9_areMany_1 : decode cX9_areMany 1 = .ok (.invokestatic 165, 3) := by decide +kernel
theorem dX9_areMany_4 : decode cX9_areMany 4 = .ok (.ifCond .eq 19, 3) := by decide +kernel
theorem dX9_areMany_7 : decode cX9_areMany 7 = .ok (.iload_n 2, 1) := by decide +kernel
theorem dX9_areMany_8 : decode cX9_areMany 8 = .ok (.i2l, 1) := by decide +kernel
theorem dX9_areMany_9 : decode cX9_areMany 9 = .ok (.lconst 1, 1) := by decide +kernel
theorem dX9_areMany_10 : decode cX9_areMany 10 = .ok (.ldc2_w 267, 3) := by decide +kernel
theorem dX9_areMany_13 : decode cX9_areMany 13 = .ok (.invokestatic 71, 3) := by decide +kernel
theorem dX9_areMany_16 : decode cX9_areMany 16 = .ok (.ifCond .eq 7, 3) := by decide +kernel
theorem dX9_areMany_19 : decode cX9_areMany 19 = .ok (.iconst 1, 1) := by decide +kernel
theorem dX9_areMany_20 : decode cX9_areMany 20 = .ok (.goto 4, 3) := by decide +kernel
theorem dX9_areMany_23 : decode cX9_areMany 23 = .ok (.iconst 0, 1) := by decide +kernel
theorem dX9_areMany_24 : decode cX9_areMany 24 = .ok (.ireturn, 1) := by decide +kernel
theorem dX9_isClash_0 : decode cX9_isClash 0 = .ok (.iconst 0, 1) := by decide +kernel
theorem dX9_isClash_1 : decode cX9_isClash 1 = .ok (.istore_n 3, 1) := by decide +kernel
theorem dX9_isClash_2 : decode cX9_isClash 2 = .ok (.iconst 0, 1) := by decide +kernel
theorem dX9_isClash_3 : decode cX9_isClash 3 = .ok (.istore 4, 2) := by decide +kernel
theorem dX9_isClash_5 : decode cX9_isClash 5 = .ok (.iconst 0, 1) := by decide +kernel
theorem dX9_isClash_6 : decode cX9_isClash 6 = .ok (.istore 5, 2) := by decide +kernel
theorem dX9_isClash_8 : decode cX9_isClash 8 = .ok (.iload 5, 2) := by decide +kernel
theorem dX9_isClash_10 : decode cX9_isClash 10 = .ok (.aload_n 0, 1) := by decide +kernel
theorem dX9_isClash_11 : decode cX9_isClash 11 = .ok (.getfield 7, 3) := by decide +kernel
theorem dX9_isClash_14 : decode cX9_isClash 14 = .ok (.iconst 0, 1) := by decide +kernel
theorem dX9_isClash_15 : decode cX9_isClash 15 = .ok (.iaload, 1) := by decide +kernel
theorem dX9_isClash_16 : decode cX9_isClash 16 = .ok (.if_icmp .ge 54, 3) := by decide +kernel
theorem dX9_isClash_19 : decode cX9_isClash 19 = .ok (.aload_n 0, 1) := by decide +kernel
theorem dX9_isClash_20 : decode cX9_isClash 20 = .ok (.iload 5, 2) := by decide +kernel
theorem dX9_isClash_22 : decode cX9_isClash 22 = .ok (.lload_n 1, 1) := by decide +kernel
theorem dX9_isClash_23 : decode cX9_isClash 23 = .ok (.invokevirtual 169, 3) := by decide +kernel
theorem dX9_isClash_26 : decode cX9_isClash 26 = .ok (.ifCond .eq 38, 3) := by decide +kernel
theorem dX9_isClash_29 : decode cX9_isClash 29 = .ok (.iconst 1, 1) := by decide +kernel
theorem dX9_isClash_30 : decode cX9_isClash 30 = .ok (.aload_n 0, 1) := by decide +kernel
theorem dX9_isClash_31 : decode cX9_isClash 31 = .ok (.iload 5, 2) := by decide +kernel
theorem dX9_isClash_33 : decode cX9_isClash 33 = .ok (.lload_n 1, 1) := by decide +kernel
theorem dX9_isClash_34 : decode cX9_isClash 34 = .ok (.invokevirtual 263, 3) := by decide +kernel
theorem dX9_isClash_37 : decode cX9_isClash 37 = .ok (.ishl, 1) := by decide +kernel
theorem dX9_isClash_38 : decode cX9_isClash 38 = .ok (.istore 6, 2) := by decide +kernel
theorem dX9_isClash_40 : decode cX9_isClash 40 = .ok (.iload 4, 2) := by decide +kernel
theorem dX9_isClash_42 : decode cX9_isClash 42 = .ok (.ifCond .ne 10, 3) := by decide +kernel
theorem dX9_isClash_45 : decode cX9_isClash 45 = .ok (.iload_n 3, 1) := by decide +kernel
theorem dX9_isClash_46 : decode cX9_isClash 46 = .ok (.iload 6, 2) := by decide +kernel
theorem dX9_isClash_48 : decode cX9_isClash 48 = .ok (.iand, 1) := by decide +kernel
theorem dX9_isClash_49 : decode cX9_isClash 49 = .ok (.ifCond .eq 7, 3) := by decide +kernel
theorem dX9_isClash_52 : decode cX9_isClash 52 = .ok (.iconst 1, 1) := by decide +kernel
theorem dX9_isClash_53 : decode cX9_isClash 53 = .ok (.goto 4, 3) := by decide +kernel
theorem dX9_isClash_56 : decode cX9_isClash 56 = .ok (.iconst 0, 1) := by decide +kernel
theorem dX9_isClash_57 : decode cX9_isClash 57 = .ok (.istore 4, 2) := by decide +kernel
theorem dX9_isClash_59 : decode cX9_isClash 59 = .ok (.iload_n 3, 1) := by decide +kernel
theorem dX9_isClash_60 : decode cX9_isClash 60 = .ok (.iload 6, 2) := by decide +kernel
theorem dX9_isClash_62 : decode cX9_isClash 62 = .ok (.ior, 1) := by decide +kernel
theorem dX9_isClash_63 : decode cX9_isClash 63 = .ok (.istore_n 3, 1) := by decide +kernel
theorem dX9_isClash_64 : decode cX9_isClash 64 = .ok (.iinc 5 1, 3) := by decide +kernel
theorem dX9_isClash_67 : decode cX9_isClash 67 = .ok (.goto (-59), 3) := by decide +kernel
theorem dX9_isClash_70 : decode cX9_isClash 70 = .ok (.iload 4, 2) := by decide +kernel
theorem dX9_isClash_72 : decode cX9_isClash 72 = .ok (.ireturn, 1) := by decide +kernel
theorem dX9_clashes_0 : decode cX9_clashes 0 = .ok (.lload_n 1, 1) := by decide +kernel
theorem dX9_clashes_1 : decode cX9_clashes 1 = .ok (.iload_n 3, 1) := by decide +kernel
theorem dX9_clashes_2 : decode cX9_clashes 2 = .ok (.invokestatic 269, 3) := by decide +kernel
theorem dX9_clashes_5 : decode cX9_clashes 5 = .ok (.ifCond .ne 5, 3) := by decide +kernel
theorem dX9_clashes_8 : decode cX9_clashes 8 = .ok (.iconst (-1), 1) := by decide +kernel
theorem dX9_clashes_9 : decode cX9_clashes 9 = .ok (.ireturn, 1) := by decide +kernel
theorem dX9_clashes_10 : decode cX9_clashes 10 = .ok (.iconst 0, 1) := by decide +kernel
theorem dX9_clashes_11 : decode cX9_clashes 11 = .ok (.istore 4, 2) := by decide +kernel
theorem dX9_clashes_13 : decode cX9_clashes 13 = .ok (.iconst 0, 1) := by decide +kernel
theorem dX9_clashes_14 : decode cX9_clashes 14 = .ok (.istore 5, 2) := by decide +kernel
theorem dX9_clashes_16 : decode cX9_clashes 16 = .ok (.iload 5, 2) := by decide +kernel
theorem dX9_clashes_18 : decode cX9_clashes 18 = .ok (.iload_n 3, 1) := by decide +kernel
theorem dX9_clashes_19 : decode cX9_clashes 19 = .ok (.if_icmp .ge 26, 3) := by decide +kernel
theorem dX9_clashes_22 : decode cX9_clashes 22 = .ok (.iload 4, 2) := by decide +kernel
theorem dX9_clashes_24 : decode cX9_clashes 24 = .ok (.aload_n 0, 1) := by decide +kernel
theorem dX9_clashes_25 : decode cX9_clashes 25 = .ok (.lload_n 1, 1) := by decide +kernel
theorem dX9_clashes_26 : decode cX9_clashes 26 = .ok (.iload 5, 2) := by decide +kernel
theorem dX9_clashes_28 : decode cX9_clashes 28 = .ok (.i2l, 1) := by decide +kernel
theorem dX9_clashes_29 : decode cX9_clashes 29 = .ok (.ladd, 1) := by decide +kernel
theorem dX9_clashes_30 : decode cX9_clashes 30 = .ok (.invokevirtual 273, 3) := by decide +kernel
theorem dX9_clashes_33 : decode cX9_clashes 33 = .ok (.invokestatic 173, 3) := by decide +kernel
theorem dX9_clashes_36 : decode cX9_clashes 36 = .ok (.iadd, 1) := by decide +kernel
theorem dX9_clashes_37 : decode cX9_clashes 37 = .ok (.istore 4, 2) := by decide +kernel
theorem dX9_clashes_39 : decode cX9_clashes 39 = .ok (.iinc 5 1, 3) := by decide +kernel
theorem dX9_clashes_42 : decode cX9_clashes 42 = .ok (.goto (-26), 3) := by decide +kernel
theorem dX9_clashes_45 : decode cX9_clashes 45 = .ok (.iload 4, 2) := by decide +kernel
theorem dX9_clashes_47 : decode cX9_clashes 47 = .ok (.ireturn, 1) := by decide +kernel
theorem dX9_stick_0 : decode cX9_stick 0 = .ok (.iload_n 1, 1) := by decide +kernel
theorem dX9_stick_1 : decode cX9_stick 1 = .ok (.bipush (-4), 2) := by decide +kernel
theorem dX9_stick_3 : decode cX9_stick 3 = .ok (.if_icmp .ne 15, 3) := by decide +kernel
theorem dX9_stick_6 : decode cX9_stick 6 = .ok (.iload_n 2, 1) := by decide +kernel
theorem dX9_stick_7 : decode cX9_stick 7 = .ok (.ifCond .ne 11, 3) := by decide +kernel
theorem dX9_stick_10 : decode cX9_stick 10 = .ok (.iload_n 3, 1) := by decide +kernel
theorem dX9_stick_11 : decode cX9_stick 11 = .ok (.ifCond .ne 7, 3) := by decide +kernel
theorem dX9_stick_14 : decode cX9_stick 14 = .ok (.iconst 1, 1) := by decide +kernel
theorem dX9_stick_15 : decode cX9_stick 15 = .ok (.goto 4, 3) := by decide +kernel
theorem dX9_stick_18 : decode cX9_stick 18 = .ok (.iconst 0, 1) := by decide +kernel
theorem dX9_stick_19 : decode cX9_stick 19 = .ok (.istore 4, 2) := by decide +kernel
theorem dX9_stick_21 : decode cX9_stick 21 = .ok (.iload 4, 2) := by decide +kernel
theorem dX9_stick_23 : decode cX9_stick 23 = .ok (.ifCond .ne 42, 3) := by decide +kernel
theorem dX9_stick_26 : decode cX9_stick 26 = .ok (.iload_n 1, 1) := by decide +kernel
theorem dX9_stick_27 : decode cX9_stick 27 = .ok (.i2l, 1) := by decide +kernel
theorem dX9_stick_28 : decode cX9_stick 28 = .ok (.lconst 0, 1) := by decide +kernel
theorem dX9_stick_29 : decode cX9_stick 29 = .ok (.ldc2_w 276, 3) := by decide +kernel
theorem dX9_stick_32 : decode cX9_stick 32 = .ok (.invokestatic 71, 3) := by decide +kernel
theorem dX9_stick_35 : decode cX9_stick 35 = .ok (.ifCond .eq 28, 3) := by decide +kernel
theorem dX9_stick_38 : decode cX9_stick 38 = .ok (.iload_n 2, 1) := by decide +kernel
theorem dX9_stick_39 : decode cX9_stick 39 = .ok (.i2l, 1) := by decide +kernel
theorem dX9_stick_40 : decode cX9_stick 40 = .ok (.lconst 0, 1) := by decide +kernel
theorem dX9_stick_41 : decode cX9_stick 41 = .ok (.ldc2_w 259, 3) := by decide +kernel
theorem dX9_stick_44 : decode cX9_stick 44 = .ok (.invokestatic 71, 3) := by decide +kernel
theorem dX9_stick_47 : decode cX9_stick 47 = .ok (.ifCond .eq 16, 3) := by decide +kernel
theorem dX9_stick_50 : decode cX9_stick 50 = .ok (.iload_n 3, 1) := by decide +kernel
theorem dX9_stick_51 : decode cX9_stick 51 = .ok (.i2l, 1) := by decide +kernel
theorem dX9_stick_52 : decode cX9_stick 52 = .ok (.iload_n 2, 1) := by decide +kernel
theorem dX9_stick_53 : decode cX9_stick 53 = .ok (.i2l, 1) := by decide +kernel
theorem dX9_stick_54 : decode cX9_stick 54 = .ok (.ldc2_w 259, 3) := by decide +kernel
theorem dX9_stick_57 : decode cX9_stick 57 = .ok (.invokestatic 71, 3) := by decide +kernel
theorem dX9_stick_60 : decode cX9_stick 60 = .ok (.ifCond .ne 5, 3) := by decide +kernel
theorem dX9_stick_63 : decode cX9_stick 63 = .ok (.iconst (-1), 1) := by decide +kernel
theorem dX9_stick_64 : decode cX9_stick 64 = .ok (.ireturn, 1) := by decide +kernel
theorem dX9_stick_65 : decode cX9_stick 65 = .ok (.aload_n 0, 1) := by decide +kernel
theorem dX9_stick_66 : decode cX9_stick 66 = .ok (.getfield 7, 3) := by decide +kernel
theorem dX9_stick_69 : decode cX9_stick 69 = .ok (.bipush 68, 2) := by decide +kernel
theorem dX9_stick_71 : decode cX9_stick 71 = .ok (.iaload, 1) := by decide +kernel
theorem dX9_stick_72 : decode cX9_stick 72 = .ok (.bipush (-4), 2) := by decide +kernel
theorem dX9_stick_74 : decode cX9_stick 74 = .ok (.if_icmp .eq 7, 3) := by decide +kernel
theorem dX9_stick_77 : decode cX9_stick 77 = .ok (.iconst 1, 1) := by decide +kernel
theorem dX9_stick_78 : decode cX9_stick 78 = .ok (.goto 4, 3) := by decide +kernel
theorem dX9_stick_81 : decode cX9_stick 81 = .ok (.iconst 0, 1) := by decide +kernel
theorem dX9_stick_82 : decode cX9_stick 82 = .ok (.invokestatic 173, 3) := by decide +kernel
theorem dX9_stick_85 : decode cX9_stick 85 = .ok (.istore 5, 2) := by decide +kernel
theorem dX9_stick_87 : decode cX9_stick 87 = .ok (.aload_n 0, 1) := by decide +kernel
theorem dX9_stick_88 : decode cX9_stick 88 = .ok (.getfield 7, 3) := by decide +kernel
theorem dX9_stick_91 : decode cX9_stick 91 = .ok (.bipush 68, 2) := by decide +kernel
theorem dX9_stick_93 : decode cX9_stick 93 = .ok (.iload_n 1, 1) := by decide +kernel
theorem dX9_stick_94 : decode cX9_stick 94 = .ok (.iastore, 1) := by decide +kernel
theorem dX9_stick_95 : decode cX9_stick 95 = .ok (.aload_n 0, 1) := by decide +kernel
theorem dX9_stick_96 : decode cX9_stick 96 = .ok (.getfield 7, 3) := by decide +kernel
theorem dX9_stick_99 : decode cX9_stick 99 = .ok (.bipush 69, 2) := by decide +kernel
theorem dX9_stick_101 : decode cX9_stick 101 = .ok (.iload 4, 2) := by decide +kernel
theorem dX9_stick_103 : decode cX9_stick 103 = .ok (.ifCond .eq 8, 3) := by decide +kernel
theorem dX9_stick_106 : decode cX9_stick 106 = .ok (.bipush (-4), 2) := by decide +kernel
theorem dX9_stick_108 : decode cX9_stick 108 = .ok (.goto 4, 3) := by decide +kernel
theorem dX9_stick_111 : decode cX9_stick 111 = .ok (.iload_n 2, 1) := by decide +kernel
theorem dX9_stick_112 : decode cX9_stick 112 = .ok (.iastore, 1) := by decide +kernel
theorem dX9_stick_113 : decode cX9_stick 113 = .ok (.aload_n 0, 1) := by decide +kernel
theorem dX9_stick_114 : decode cX9_stick 114 = .ok (.getfield 7, 3) := by decide +kernel
theorem dX9_stick_117 : decode cX9_stick 117 = .ok (.bipush 70, 2) := by decide +kernel
theorem dX9_stick_119 : decode cX9_stick 119 = .ok (.iload 4, 2) := by decide +kernel
theorem dX9_stick_121 : decode cX9_stick 121 = .ok (.ifCond .eq 8, 3) := by decide +kernel
theorem dX9_stick_124 : decode cX9_stick 124 = .ok (.bipush (-4), 2) := by decide +kernel
theorem dX9_stick_126 : decode cX9_stick 126 = .ok (.goto 4, 3) := by decide +kernel
theorem dX9_stick_129 : decode cX9_stick 129 = .ok (.iload_n 3, 1) := by decide +kernel
theorem dX9_stick_130 : decode cX9_stick 130 = .ok (.iastore, 1) := by decide +kernel
theorem dX9_stick_131 : decode cX9_stick 131 = .ok (.iload 5, 2) := by decide +kernel
theorem dX9_stick_133 : decode cX9_stick 133 = .ok (.ireturn, 1) := by decide +kernel
theorem dX9_quietFirst_0 : decode cX9_quietFirst 0 = .ok (.bipush (-4), 2) := by decide +kernel
theorem dX9_quietFirst_2 : decode cX9_quietFirst 2 = .ok (.istore_n 3, 1) := by decide +kernel
theorem dX9_quietFirst_3 : decode cX9_quietFirst 3 = .ok (.aload_n 0, 1) := by decide +kernel
theorem dX9_quietFirst_4 : decode cX9_quietFirst 4 = .ok (.getfield 7, 3) := by decide +kernel
theorem dX9_quietFirst_7 : decode cX9_quietFirst 7 = .ok (.iconst 1, 1) := by decide +kernel
theorem dX9_quietFirst_8 : decode cX9_quietFirst 8 = .ok (.bipush 6, 2) := by decide +kernel
theorem dX9_quietFirst_10 : decode cX9_quietFirst 10 = .ok (.iload_n 1, 1) := by decide +kernel
theorem dX9_quietFirst_11 : decode cX9_quietFirst 11 = .ok (.imul, 1) := by decide +kernel
theorem dX9_quietFirst_12 : decode cX9_quietFirst 12 = .ok (.iadd, 1) := by decide +kernel
theorem dX9_quietFirst_13 : decode cX9_quietFirst 13 = .ok (.iconst 1, 1) := by decide +kernel
theorem dX9_quietFirst_14 : decode cX9_quietFirst 14 = .ok (.iadd, 1) := by decide +kernel
theorem dX9_quietFirst_15 : decode cX9_quietFirst 15 = .ok (.iload_n 2, 1) := by decide +kernel
theorem dX9_quietFirst_16 : decode cX9_quietFirst 16 = .ok (.iastore, 1) := by decide +kernel
theorem dX9_quietFirst_17 : decode cX9_quietFirst 17 = .ok (.iconst 0, 1) := by decide +kernel
theorem dX9_quietFirst_18 : decode cX9_quietFirst 18 = .ok (.istore 4, 2) := by decide +kernel
theorem dX9_quietFirst_20 : decode cX9_quietFirst 20 = .ok (.iload 4, 2) := by decide +kernel
theorem dX9_quietFirst_22 : decode cX9_quietFirst 22 = .ok (.iload_n 2, 1) := by decide +kernel
theorem dX9_quietFirst_23 : decode cX9_quietFirst 23 = .ok (.if_icmp .ge 45, 3) := by decide +kernel
theorem dX9_quietFirst_26 : decode cX9_quietFirst 26 = .ok (.iload_n 3, 1) := by decide +kernel
theorem dX9_quietFirst_27 : decode cX9_quietFirst 27 = .ok (.bipush (-4), 2) := by decide +kernel
theorem dX9_quietFirst_29 : decode cX9_quietFirst 29 = .ok (.if_icmp .ne 39, 3) := by decide +kernel
theorem dX9_quietFirst_32 : decode cX9_quietFirst 32 = .ok (.aload_n 0, 1) := by decide +kernel
theorem dX9_quietFirst_33 : decode cX9_quietFirst 33 = .ok (.getfield 7, 3) := by decide +kernel
theorem dX9_quietFirst_36 : decode cX9_quietFirst 36 = .ok (.iconst 1, 1) := by decide +kernel
theorem dX9_quietFirst_37 : decode cX9_quietFirst 37 = .ok (.bipush 6, 2) := by decide +kernel
end
section
theorem dX9_quietFirst_39 : decode cX9_quietFirst 39 = .ok (.iload_n 1, 1) := by decide +kernel
theorem dX9_quietFirst_40 : decode cX9_quietFirst 40 = .ok (.imul, 1) := by decide +kernel
theorem dX9_quietFirst_41 : decode cX9_quietFirst 41 = .ok (.iadd, 1) := by decide +kernel
theorem dX9_quietFirst_42 : decode cX9_quietFirst 42 = .ok (.iconst 2, 1) := by decide +kernel
theorem dX9_quietFirst_43 : decode cX9_quietFirst 43 = .ok (.iadd, 1) := by decide +kernel
theorem dX9_quietFirst_44 : decode cX9_quietFirst 44 = .ok (.iload 4, 2) := by decide +kernel
theorem dX9_quietFirst_46 : decode cX9_quietFirst 46 = .ok (.iastore, 1) := by decide +kernel
theorem dX9_quietFirst_47 : decode cX9_quietFirst 47 = .ok (.aload_n 0, 1) := by decide +kernel
theorem dX9_quietFirst_48 : decode cX9_quietFirst 48 = .ok (.iload_n 1, 1) := by decide +kernel
theorem dX9_quietFirst_49 : decode cX9_quietFirst 49 = .ok (.invokevirtual 245, 3) := by decide +kernel
theorem dX9_quietFirst_52 : decode cX9_quietFirst 52 = .ok (.ifCond .ne 8, 3) := by decide +kernel
theorem dX9_quietFirst_55 : decode cX9_quietFirst 55 = .ok (.iload 4, 2) := by decide +kernel
theorem dX9_quietFirst_57 : decode cX9_quietFirst 57 = .ok (.goto 4, 3) := by decide +kernel
theorem dX9_quietFirst_60 : decode cX9_quietFirst 60 = .ok (.iload_n 3, 1) := by decide +kernel
theorem dX9_quietFirst_61 : decode cX9_quietFirst 61 = .ok (.istore_n 3, 1) := by decide +kernel
theorem dX9_quietFirst_62 : decode cX9_quietFirst 62 = .ok (.iinc 4 1, 3) := by decide +kernel
theorem dX9_quietFirst_65 : decode cX9_quietFirst 65 = .ok (.goto (-45), 3) := by decide +kernel
theorem dX9_quietFirst_68 : decode cX9_quietFirst 68 = .ok (.iload_n 3, 1) := by decide +kernel
theorem dX9_quietFirst_69 : decode cX9_quietFirst 69 = .ok (.ireturn, 1) := by decide +kernel
theorem dX9_mayHave_0 : decode cX9_mayHave 0 = .ok (.iload_n 2, 1) := by decide +kernel
theorem dX9_mayHave_1 : decode cX9_mayHave 1 = .ok (.i2l, 1) := by decide +kernel
theorem dX9_mayHave_2 : decode cX9_mayHave 2 = .ok (.ldc2_w 278, 3) := by decide +kernel
theorem dX9_mayHave_5 : decode cX9_mayHave 5 = .ok (.ldc2_w 280, 3) := by decide +kernel
theorem dX9_mayHave_8 : decode cX9_mayHave 8 = .ok (.invokestatic 71, 3) := by decide +kernel
theorem dX9_mayHave_11 : decode cX9_mayHave 11 = .ok (.ifCond .eq 17, 3) := by decide +kernel
theorem dX9_mayHave_14 : decode cX9_mayHave 14 = .ok (.iload_n 2, 1) := by decide +kernel
theorem dX9_mayHave_15 : decode cX9_mayHave 15 = .ok (.aload_n 0, 1) := by decide +kernel
theorem dX9_mayHave_16 : decode cX9_mayHave 16 = .ok (.iload_n 1, 1) := by decide +kernel
theorem dX9_mayHave_17 : decode cX9_mayHave 17 = .ok (.iconst 5, 1) := by decide +kernel
theorem dX9_mayHave_18 : decode cX9_mayHave 18 = .ok (.invokevirtual 143, 3) := by decide +kernel
theorem dX9_mayHave_21 : decode cX9_mayHave 21 = .ok (.if_icmp .le 7, 3) := by decide +kernel
theorem dX9_mayHave_24 : decode cX9_mayHave 24 = .ok (.iconst 1, 1) := by decide +kernel
theorem dX9_mayHave_25 : decode cX9_mayHave 25 = .ok (.goto 4, 3) := by decide +kernel
theorem dX9_mayHave_28 : decode cX9_mayHave 28 = .ok (.iconst 0, 1) := by decide +kernel
theorem dX9_mayHave_29 : decode cX9_mayHave 29 = .ok (.ireturn, 1) := by decide +kernel
theorem dX9_findCut_0 : decode cX9_findCut 0 = .ok (.aload_n 0, 1) := by decide +kernel
theorem dX9_findCut_1 : decode cX9_findCut 1 = .ok (.iload_n 1, 1) := by decide +kernel
theorem dX9_findCut_2 : decode cX9_findCut 2 = .ok (.iconst 1, 1) := by decide +kernel
theorem dX9_findCut_3 : decode cX9_findCut 3 = .ok (.invokevirtual 143, 3) := by decide +kernel
theorem dX9_findCut_6 : decode cX9_findCut 6 = .ok (.istore_n 2, 1) := by decide +kernel
theorem dX9_findCut_7 : decode cX9_findCut 7 = .ok (.aload_n 0, 1) := by decide +kernel
theorem dX9_findCut_8 : decode cX9_findCut 8 = .ok (.iload_n 1, 1) := by decide +kernel
theorem dX9_findCut_9 : decode cX9_findCut 9 = .ok (.iconst 2, 1) := by decide +kernel
theorem dX9_findCut_10 : decode cX9_findCut 10 = .ok (.invokevirtual 143, 3) := by decide +kernel
theorem dX9_findCut_13 : decode cX9_findCut 13 = .ok (.istore_n 3, 1) := by decide +kernel
theorem dX9_findCut_14 : decode cX9_findCut 14 = .ok (.aload_n 0, 1) := by decide +kernel
theorem dX9_findCut_15 : decode cX9_findCut 15 = .ok (.bipush (-4), 2) := by decide +kernel
theorem dX9_findCut_17 : decode cX9_findCut 17 = .ok (.putfield 282, 3) := by decide +kernel
theorem dX9_findCut_20 : decode cX9_findCut 20 = .ok (.iconst 0, 1) := by decide +kernel
theorem dX9_findCut_21 : decode cX9_findCut 21 = .ok (.istore 4, 2) := by decide +kernel
theorem dX9_findCut_23 : decode cX9_findCut 23 = .ok (.iload 4, 2) := by decide +kernel
theorem dX9_findCut_25 : decode cX9_findCut 25 = .ok (.bipush 60, 2) := by decide +kernel
theorem dX9_findCut_27 : decode cX9_findCut 27 = .ok (.if_icmp .ge 101, 3) := by decide +kernel
theorem dX9_findCut_30 : decode cX9_findCut 30 = .ok (.aload_n 0, 1) := by decide +kernel
theorem dX9_findCut_31 : decode cX9_findCut 31 = .ok (.getfield 282, 3) := by decide +kernel
theorem dX9_findCut_34 : decode cX9_findCut 34 = .ok (.bipush (-4), 2) := by decide +kernel
theorem dX9_findCut_36 : decode cX9_findCut 36 = .ok (.if_icmp .ne 92, 3) := by decide +kernel
theorem dX9_findCut_39 : decode cX9_findCut 39 = .ok (.iconst 0, 1) := by decide +kernel
theorem dX9_findCut_40 : decode cX9_findCut 40 = .ok (.istore 5, 2) := by decide +kernel
theorem dX9_findCut_42 : decode cX9_findCut 42 = .ok (.iload 5, 2) := by decide +kernel
theorem dX9_findCut_44 : decode cX9_findCut 44 = .ok (.iconst 2, 1) := by decide +kernel
theorem dX9_findCut_45 : decode cX9_findCut 45 = .ok (.if_icmp .ge 77, 3) := by decide +kernel
theorem dX9_findCut_48 : decode cX9_findCut 48 = .ok (.aload_n 0, 1) := by decide +kernel
theorem dX9_findCut_49 : decode cX9_findCut 49 = .ok (.getfield 282, 3) := by decide +kernel
theorem dX9_findCut_52 : decode cX9_findCut 52 = .ok (.bipush (-4), 2) := by decide +kernel
theorem dX9_findCut_54 : decode cX9_findCut 54 = .ok (.if_icmp .ne 68, 3) := by decide +kernel
theorem dX9_findCut_57 : decode cX9_findCut 57 = .ok (.iload 5, 2) := by decide +kernel
theorem dX9_findCut_59 : decode cX9_findCut 59 = .ok (.ifCond .ne 10, 3) := by decide +kernel
theorem dX9_findCut_62 : decode cX9_findCut 62 = .ok (.iload_n 2, 1) := by decide +kernel
theorem dX9_findCut_63 : decode cX9_findCut 63 = .ok (.iload 4, 2) := by decide +kernel
theorem dX9_findCut_65 : decode cX9_findCut 65 = .ok (.isub, 1) := by decide +kernel
theorem dX9_findCut_66 : decode cX9_findCut 66 = .ok (.goto 7, 3) := by decide +kernel
theorem dX9_findCut_69 : decode cX9_findCut 69 = .ok (.iload_n 2, 1) := by decide +kernel
theorem dX9_findCut_70 : decode cX9_findCut 70 = .ok (.iload 4, 2) := by decide +kernel
theorem dX9_findCut_72 : decode cX9_findCut 72 = .ok (.iadd, 1) := by decide +kernel
theorem dX9_findCut_73 : decode cX9_findCut 73 = .ok (.istore 6, 2) := by decide +kernel
theorem dX9_findCut_75 : decode cX9_findCut 75 = .ok (.aload_n 0, 1) := by decide +kernel
theorem dX9_findCut_76 : decode cX9_findCut 76 = .ok (.iload_n 1, 1) := by decide +kernel
theorem dX9_findCut_77 : decode cX9_findCut 77 = .ok (.iload 6, 2) := by decide +kernel
theorem dX9_findCut_79 : decode cX9_findCut 79 = .ok (.invokevirtual 285, 3) := by decide +kernel
theorem dX9_findCut_82 : decode cX9_findCut 82 = .ok (.ifCond .eq 34, 3) := by decide +kernel
theorem dX9_findCut_85 : decode cX9_findCut 85 = .ok (.aload_n 0, 1) := by decide +kernel
theorem dX9_findCut_86 : decode cX9_findCut 86 = .ok (.aload_n 0, 1) := by decide +kernel
theorem dX9_findCut_87 : decode cX9_findCut 87 = .ok (.iload_n 1, 1) := by decide +kernel
theorem dX9_findCut_88 : decode cX9_findCut 88 = .ok (.iload 6, 2) := by decide +kernel
theorem dX9_findCut_90 : decode cX9_findCut 90 = .ok (.invokevirtual 288, 3) := by decide +kernel
theorem dX9_findCut_93 : decode cX9_findCut 93 = .ok (.putfield 291, 3) := by decide +kernel
theorem dX9_findCut_96 : decode cX9_findCut 96 = .ok (.aload_n 0, 1) := by decide +kernel
theorem dX9_findCut_97 : decode cX9_findCut 97 = .ok (.aload_n 0, 1) := by decide +kernel
theorem dX9_findCut_98 : decode cX9_findCut 98 = .ok (.getfield 291, 3) := by decide +kernel
theorem dX9_findCut_101 : decode cX9_findCut 101 = .ok (.bipush (-4), 2) := by decide +kernel
theorem dX9_findCut_103 : decode cX9_findCut 103 = .ok (.if_icmp .ne 8, 3) := by decide +kernel
theorem dX9_findCut_106 : decode cX9_findCut 106 = .ok (.bipush (-4), 2) := by decide +kernel
theorem dX9_findCut_108 : decode cX9_findCut 108 = .ok (.goto 5, 3) := by decide +kernel
theorem dX9_findCut_111 : decode cX9_findCut 111 = .ok (.iload 6, 2) := by decide +kernel
theorem dX9_findCut_113 : decode cX9_findCut 113 = .ok (.putfield 282, 3) := by decide +kernel
theorem dX9_findCut_116 : decode cX9_findCut 116 = .ok (.iinc 5 1, 3) := by decide +kernel
theorem dX9_findCut_119 : decode cX9_findCut 119 = .ok (.goto (-77), 3) := by decide +kernel
theorem dX9_findCut_122 : decode cX9_findCut 122 = .ok (.iinc 4 1, 3) := by decide +kernel
theorem dX9_findCut_125 : decode cX9_findCut 125 = .ok (.goto (-102), 3) := by decide +kernel
theorem dX9_findCut_128 : decode cX9_findCut 128 = .ok (.aload_n 0, 1) := by decide +kernel
theorem dX9_findCut_129 : decode cX9_findCut 129 = .ok (.getfield 7, 3) := by decide +kernel
theorem dX9_findCut_132 : decode cX9_findCut 132 = .ok (.iconst 1, 1) := by decide +kernel
theorem dX9_findCut_133 : decode cX9_findCut 133 = .ok (.bipush 6, 2) := by decide +kernel
theorem dX9_findCut_135 : decode cX9_findCut 135 = .ok (.iload_n 1, 1) := by decide +kernel
theorem dX9_findCut_136 : decode cX9_findCut 136 = .ok (.imul, 1) := by decide +kernel
theorem dX9_findCut_137 : decode cX9_findCut 137 = .ok (.iadd, 1) := by decide +kernel
theorem dX9_findCut_138 : decode cX9_findCut 138 = .ok (.iconst 1, 1) := by decide +kernel
theorem dX9_findCut_139 : decode cX9_findCut 139 = .ok (.iadd, 1) := by decide +kernel
theorem dX9_findCut_140 : decode cX9_findCut 140 = .ok (.iload_n 2, 1) := by decide +kernel
theorem dX9_findCut_141 : decode cX9_findCut 141 = .ok (.iastore, 1) := by decide +kernel
theorem dX9_findCut_142 : decode cX9_findCut 142 = .ok (.aload_n 0, 1) := by decide +kernel
theorem dX9_findCut_143 : decode cX9_findCut 143 = .ok (.getfield 7, 3) := by decide +kernel
theorem dX9_findCut_146 : decode cX9_findCut 146 = .ok (.iconst 1, 1) := by decide +kernel
theorem dX9_findCut_147 : decode cX9_findCut 147 = .ok (.bipush 6, 2) := by decide +kernel
theorem dX9_findCut_149 : decode cX9_findCut 149 = .ok (.iload_n 1, 1) := by decide +kernel
theorem dX9_findCut_150 : decode cX9_findCut 150 = .ok (.imul, 1) := by decide +kernel
theorem dX9_findCut_151 : decode cX9_findCut 151 = .ok (.iadd, 1) := by decide +kernel
theorem dX9_findCut_152 : decode cX9_findCut 152 = .ok (.iconst 2, 1) := by decide +kernel
theorem dX9_findCut_153 : decode cX9_findCut 153 = .ok (.iadd, 1) := by decide +kernel
theorem dX9_findCut_154 : decode cX9_findCut 154 = .ok (.iload_n 3, 1) := by decide +kernel
theorem dX9_findCut_155 : decode cX9_findCut 155 = .ok (.iastore, 1) := by decide +kernel
theorem dX9_findCut_156 : decode cX9_findCut 156 = .ok (.aload_n 0, 1) := by decide +kernel
theorem dX9_findCut_157 : decode cX9_findCut 157 = .ok (.getfield 282, 3) := by decide +kernel
theorem dX9_findCut_160 : decode cX9_findCut 160 = .ok (.bipush (-4), 2) := by decide +kernel
theorem dX9_findCut_162 : decode cX9_findCut 162 = .ok (.if_icmp .eq 7, 3) := by decide +kernel
theorem dX9_findCut_165 : decode cX9_findCut 165 = .ok (.iconst 1, 1) := by decide +kernel
theorem dX9_findCut_166 : decode cX9_findCut 166 = .ok (.goto 4, 3) := by decide +kernel
theorem dX9_findCut_169 : decode cX9_findCut 169 = .ok (.iconst 0, 1) := by decide +kernel
theorem dX9_findCut_170 : decode cX9_findCut 170 = .ok (.ireturn, 1) := by decide +kernel
theorem dX9_cut_0 : decode cX9_cut 0 = .ok (.aload_n 0, 1) := by decide +kernel
theorem dX9_cut_1 : decode cX9_cut 1 = .ok (.iload_n 1, 1) := by decide +kernel
theorem dX9_cut_2 : decode cX9_cut 2 = .ok (.invokevirtual 146, 3) := by decide +kernel
theorem dX9_cut_5 : decode cX9_cut 5 = .ok (.ifCond .eq 13, 3) := by decide +kernel
theorem dX9_cut_8 : decode cX9_cut 8 = .ok (.iload_n 2, 1) := by decide +kernel
theorem dX9_cut_9 : decode cX9_cut 9 = .ok (.i2l, 1) := by decide +kernel
theorem dX9_cut_10 : decode cX9_cut 10 = .ok (.lconst 0, 1) := by decide +kernel
theorem dX9_cut_11 : decode cX9_cut 11 = .ok (.lconst 1, 1) := by decide +kernel
theorem dX9_cut_12 : decode cX9_cut 12 = .ok (.invokestatic 71, 3) := by decide +kernel
theorem dX9_cut_15 : decode cX9_cut 15 = .ok (.ifCond .ne 5, 3) := by decide +kernel
theorem dX9_cut_18 : decode cX9_cut 18 = .ok (.iconst (-1), 1) := by decide +kernel
theorem dX9_cut_19 : decode cX9_cut 19 = .ok (.ireturn, 1) := by decide +kernel
theorem dX9_cut_20 : decode cX9_cut 20 = .ok (.aload_n 0, 1) := by decide +kernel
theorem dX9_cut_21 : decode cX9_cut 21 = .ok (.iload_n 1, 1) := by decide +kernel
theorem dX9_cut_22 : decode cX9_cut 22 = .ok (.invokevirtual 294, 3) := by decide +kernel
theorem dX9_cut_25 : decode cX9_cut 25 = .ok (.ifCond .ne 8, 3) := by decide +kernel
theorem dX9_cut_28 : decode cX9_cut 28 = .ok (.bipush (-4), 2) := by decide +kernel
theorem dX9_cut_30 : decode cX9_cut 30 = .ok (.goto 18, 3) := by decide +kernel
theorem dX9_cut_33 : decode cX9_cut 33 = .ok (.iload_n 2, 1) := by decide +kernel
theorem dX9_cut_34 : decode cX9_cut 34 = .ok (.ifCond .ne 10, 3) := by decide +kernel
theorem dX9_cut_37 : decode cX9_cut 37 = .ok (.aload_n 0, 1) := by decide +kernel
theorem dX9_cut_38 : decode cX9_cut 38 = .ok (.getfield 282, 3) := by decide +kernel
theorem dX9_cut_41 : decode cX9_cut 41 = .ok (.goto 7, 3) := by decide +kernel
theorem dX9_cut_44 : decode cX9_cut 44 = .ok (.aload_n 0, 1) := by decide +kernel
theorem dX9_cut_45 : decode cX9_cut 45 = .ok (.getfield 291, 3) := by decide +kernel
theorem dX9_cut_48 : decode cX9_cut 48 = .ok (.ireturn, 1) := by decide +kernel
theorem dX9_turn_0 : decode cX9_turn 0 = .ok (.aload_n 0, 1) := by decide +kernel
theorem dX9_turn_1 : decode cX9_turn 1 = .ok (.iload_n 1, 1) := by decide +kernel
theorem dX9_turn_2 : decode cX9_turn 2 = .ok (.invokevirtual 146, 3) := by decide +kernel
theorem dX9_turn_5 : decode cX9_turn 5 = .ok (.ifCond .ne 5, 3) := by decide +kernel
theorem dX9_turn_8 : decode cX9_turn 8 = .ok (.iconst (-1), 1) := by decide +kernel
theorem dX9_turn_9 : decode cX9_turn 9 = .ok (.ireturn, 1) := by decide +kernel
theorem dX9_turn_10 : decode cX9_turn 10 = .ok (.aload_n 0, 1) := by decide +kernel
theorem dX9_turn_11 : decode cX9_turn 11 = .ok (.iload_n 1, 1) := by decide +kernel
theorem dX9_turn_12 : decode cX9_turn 12 = .ok (.iconst 2, 1) := by decide +kernel
theorem dX9_turn_13 : decode cX9_turn 13 = .ok (.invokevirtual 143, 3) := by decide +kernel
theorem dX9_turn_16 : decode cX9_turn 16 = .ok (.istore_n 2, 1) := by decide +kernel
theorem dX9_turn_17 : decode cX9_turn 17 = .ok (.bipush (-4), 2) := by decide +kernel
theorem dX9_turn_19 : decode cX9_turn 19 = .ok (.istore_n 3, 1) := by decide +kernel
theorem dX9_turn_20 : decode cX9_turn 20 = .ok (.iconst 0, 1) := by decide +kernel
theorem dX9_turn_21 : decode cX9_turn 21 = .ok (.istore 4, 2) := by decide +kernel
theorem dX9_turn_23 : decode cX9_turn 23 = .ok (.iload 4, 2) := by decide +kernel
theorem dX9_turn_25 : decode cX9_turn 25 = .ok (.aload_n 0, 1) := by decide +kernel
theorem dX9_turn_26 : decode cX9_turn 26 = .ok (.iload_n 1, 1) := by decide +kernel
theorem dX9_turn_27 : decode cX9_turn 27 = .ok (.iconst 1, 1) := by decide +kernel
theorem dX9_turn_28 : decode cX9_turn 28 = .ok (.invokevirtual 143, 3) := by decide +kernel
theorem dX9_turn_31 : decode cX9_turn 31 = .ok (.if_icmp .ge 58, 3) := by decide +kernel
theorem dX9_turn_34 : decode cX9_turn 34 = .ok (.iload_n 3, 1) := by decide +kernel
theorem dX9_turn_35 : decode cX9_turn 35 = .ok (.bipush (-4), 2) := by decide +kernel
theorem dX9_turn_37 : decode cX9_turn 37 = .ok (.if_icmp .ne 52, 3) := by decide +kernel
theorem dX9_turn_40 : decode cX9_turn 40 = .ok (.iload_n 2, 1) := by decide +kernel
theorem dX9_turn_41 : decode cX9_turn 41 = .ok (.iload 4, 2) := by decide +kernel
theorem dX9_turn_43 : decode cX9_turn 43 = .ok (.iadd, 1) := by decide +kernel
theorem dX9_turn_44 : decode cX9_turn 44 = .ok (.aload_n 0, 1) := by decide +kernel
theorem dX9_turn_45 : decode cX9_turn 45 = .ok (.iload_n 1, 1) := by decide +kernel
theorem dX9_turn_46 : decode cX9_turn 46 = .ok (.iconst 1, 1) := by decide +kernel
theorem dX9_turn_47 : decode cX9_turn 47 = .ok (.invokevirtual 143, 3) := by decide +kernel
theorem dX9_turn_50 : decode cX9_turn 50 = .ok (.irem, 1) := by decide +kernel
theorem dX9_turn_51 : decode cX9_turn 51 = .ok (.istore 5, 2) := by decide +kernel
theorem dX9_turn_53 : decode cX9_turn 53 = .ok (.aload_n 0, 1) := by decide +kernel
theorem dX9_turn_54 : decode cX9_turn 54 = .ok (.getfield 7, 3) := by decide +kernel
theorem dX9_turn_57 : decode cX9_turn 57 = .ok (.iconst 1, 1) := by decide +kernel
theorem dX9_turn_58 : decode cX9_turn 58 = .ok (.bipush 6, 2) := by decide +kernel
theorem dX9_turn_60 : decode cX9_turn 60 = .ok (.iload_n 1, 1) := by decide +kernel
theorem dX9_turn_61 : decode cX9_turn 61 = .ok (.imul, 1) := by decide +kernel
theorem dX9_turn_62 : decode cX9_turn 62 = .ok (.iadd, 1) := by decide +kernel
theorem dX9_turn_63 : decode cX9_turn 63 = .ok (.iconst 2, 1) := by decide +kernel
theorem dX9_turn_64 : decode cX9_turn 64 = .ok (.iadd, 1) := by decide +kernel
theorem dX9_turn_65 : decode cX9_turn 65 = .ok (.iload 5, 2) := by decide +kernel
theorem dX9_turn_67 : decode cX9_turn 67 = .ok (.iastore, 1) := by decide +kernel
theorem dX9_turn_68 : decode cX9_turn 68 = .ok (.aload_n 0, 1) := by decide +kernel
theorem dX9_turn_69 : decode cX9_turn 69 = .ok (.iload_n 1, 1) := by decide +kernel
theorem dX9_turn_70 : decode cX9_turn 70 = .ok (.invokevirtual 245, 3) := by decide +kernel
theorem dX9_turn_73 : decode cX9_turn 73 = .ok (.ifCond .ne 8, 3) := by decide +kernel
theorem dX9_turn_76 : decode cX9_turn 76 = .ok (.iload 5, 2) := by decide +kernel
theorem dX9_turn_78 : decode cX9_turn 78 = .ok (.goto 4, 3) := by decide +kernel
theorem dX9_turn_81 : decode cX9_turn 81 = .ok (.iload_n 3, 1) := by decide +kernel
theorem dX9_turn_82 : decode cX9_turn 82 = .ok (.istore_n 3, 1) := by decide +kernel
theorem dX9_turn_83 : decode cX9_turn 83 = .ok (.iinc 4 1, 3) := by decide +kernel
theorem dX9_turn_86 : decode cX9_turn 86 = .ok (.goto (-63), 3) := by decide +kernel
theorem dX9_turn_89 : decode cX9_turn 89 = .ok (.aload_n 0, 1) := by decide +kernel
theorem dX9_turn_90 : decode cX9_turn 90 = .ok (.getfield 7, 3) := by decide +kernel
theorem dX9_turn_93 : decode cX9_turn 93 = .ok (.iconst 1, 1) := by decide +kernel
theorem dX9_turn_94 : decode cX9_turn 94 = .ok (.bipush 6, 2) := by decide +kernel
theorem dX9_turn_96 : decode cX9_turn 96 = .ok (.iload_n 1, 1) := by decide +kernel
theorem dX9_turn_97 : decode cX9_turn 97 = .ok (.imul, 1) := by decide +kernel
theorem dX9_turn_98 : decode cX9_turn 98 = .ok (.iadd, 1) := by decide +kernel
theorem dX9_turn_99 : decode cX9_turn 99 = .ok (.iconst 2, 1) := by decide +kernel
theorem dX9_turn_100 : decode cX9_turn 100 = .ok (.iadd, 1) := by decide +kernel
theorem dX9_turn_101 : decode cX9_turn 101 = .ok (.iload_n 2, 1) := by decide +kernel
theorem dX9_turn_102 : decode cX9_turn 102 = .ok (.iastore, 1) := by decide +kernel
theorem dX9_turn_103 : decode cX9_turn 103 = .ok (.iload_n 3, 1) := by decide +kernel
theorem dX9_turn_104 : decode cX9_turn 104 = .ok (.ireturn, 1) := by decide +kernel
theorem dX9_recut_0 : decode cX9_recut 0 = .ok (.aload_n 0, 1) := by decide +kernel
theorem dX9_recut_1 : decode cX9_recut 1 = .ok (.iload_n 1, 1) := by decide +kernel
theorem dX9_recut_2 : decode cX9_recut 2 = .ok (.invokevirtual 146, 3) := by decide +kernel
theorem dX9_recut_5 : decode cX9_recut 5 = .ok (.ifCond .eq 25, 3) := by decide +kernel
theorem dX9_recut_8 : decode cX9_recut 8 = .ok (.aload_n 0, 1) := by decide +kernel
theorem dX9_recut_9 : decode cX9_recut 9 = .ok (.iload_n 1, 1) := by decide +kernel
theorem dX9_recut_10 : decode cX9_recut 10 = .ok (.iload_n 2, 1) := by decide +kernel
theorem dX9_recut_11 : decode cX9_recut 11 = .ok (.invokevirtual 285, 3) := by decide +kernel
theorem dX9_recut_14 : decode cX9_recut 14 = .ok (.ifCond .eq 16, 3) := by decide +kernel
theorem dX9_recut_17 : decode cX9_recut 17 = .ok (.iload_n 3, 1) := by decide +kernel
theorem dX9_recut_18 : decode cX9_recut 18 = .ok (.i2l, 1) := by decide +kernel
theorem dX9_recut_19 : decode cX9_recut 19 = .ok (.lconst 0, 1) := by decide +kernel
theorem dX9_recut_20 : decode cX9_recut 20 = .ok (.iload_n 2, 1) := by decide +kernel
theorem dX9_recut_21 : decode cX9_recut 21 = .ok (.iconst 1, 1) := by decide +kernel
theorem dX9_recut_22 : decode cX9_recut 22 = .ok (.isub, 1) := by decide +kernel
theorem dX9_recut_23 : decode cX9_recut 23 = .ok (.i2l, 1) := by decide +kernel
theorem dX9_recut_24 : decode cX9_recut 24 = .ok (.invokestatic 71, 3) := by decide +kernel
theorem dX9_recut_27 : decode cX9_recut 27 = .ok (.ifCond .ne 5, 3) := by decide +kernel
theorem dX9_recut_30 : decode cX9_recut 30 = .ok (.iconst (-1), 1) := by decide +kernel
theorem dX9_recut_31 : decode cX9_recut 31 = .ok (.ireturn, 1) := by decide +kernel
theorem dX9_recut_32 : decode cX9_recut 32 = .ok (.aload_n 0, 1) := by decide +kernel
theorem dX9_recut_33 : decode cX9_recut 33 = .ok (.iload_n 1, 1) := by decide +kernel
theorem dX9_recut_34 : decode cX9_recut 34 = .ok (.iconst 1, 1) := by decide +kernel
theorem dX9_recut_35 : decode cX9_recut 35 = .ok (.invokevirtual 143, 3) := by decide +kernel
theorem dX9_recut_38 : decode cX9_recut 38 = .ok (.istore 4, 2) := by decide +kernel
theorem dX9_recut_40 : decode cX9_recut 40 = .ok (.aload_n 0, 1) := by decide +kernel
theorem dX9_recut_41 : decode cX9_recut 41 = .ok (.getfield 7, 3) := by decide +kernel
theorem dX9_recut_44 : decode cX9_recut 44 = .ok (.iconst 1, 1) := by decide +kernel
theorem dX9_recut_45 : decode cX9_recut 45 = .ok (.bipush 6, 2) := by decide +kernel
theorem dX9_recut_47 : decode cX9_recut 47 = .ok (.iload_n 1, 1) := by decide +kernel
theorem dX9_recut_48 : decode cX9_recut 48 = .ok (.imul, 1) := by decide +kernel
theorem dX9_recut_49 : decode cX9_recut 49 = .ok (.iadd, 1) := by decide +kernel
theorem dX9_recut_50 : decode cX9_recut 50 = .ok (.iconst 1, 1) := by decide +kernel
theorem dX9_recut_51 : decode cX9_recut 51 = .ok (.iadd, 1) := by decide +kernel
theorem dX9_recut_52 : decode cX9_recut 52 = .ok (.iload_n 2, 1) := by decide +kernel
theorem dX9_recut_53 : decode cX9_recut 53 = .ok (.iastore, 1) := by decide +kernel
theorem dX9_recut_54 : decode cX9_recut 54 = .ok (.aload_n 0, 1) := by decide +kernel
theorem dX9_recut_55 : decode cX9_recut 55 = .ok (.getfield 7, 3) := by decide +kernel
theorem dX9_recut_58 : decode cX9_recut 58 = .ok (.iconst 1, 1) := by decide +kernel
theorem dX9_recut_59 : decode cX9_recut 59 = .ok (.bipush 6, 2) := by decide +kernel
theorem dX9_recut_61 : decode cX9_recut 61 = .ok (.iload_n 1, 1) := by decide +kernel
theorem dX9_recut_62 : decode cX9_recut 62 = .ok (.imul, 1) := by decide +kernel
theorem dX9_recut_63 : decode cX9_recut 63 = .ok (.iadd, 1) := by decide +kernel
theorem dX9_recut_64 : decode cX9_recut 64 = .ok (.iconst 2, 1) := by decide +kernel
theorem dX9_recut_65 : decode cX9_recut 65 = .ok (.iadd, 1) := by decide +kernel
theorem dX9_recut_66 : decode cX9_recut 66 = .ok (.iload_n 3, 1) := by decide +kernel
theorem dX9_recut_67 : decode cX9_recut 67 = .ok (.iastore, 1) := by decide +kernel
theorem dX9_recut_68 : decode cX9_recut 68 = .ok (.iload 4, 2) := by decide +kernel
theorem dX9_recut_70 : decode cX9_recut 70 = .ok (.ireturn, 1) := by decide +kernel
theorem dX9_mend_0 : decode cX9_mend 0 = .ok (.iload_n 1, 1) := by decide +kernel
theorem dX9_mend_1 : decode cX9_mend 1 = .ok (.i2l, 1) := by decide +kernel
theorem dX9_mend_2 : decode cX9_mend 2 = .ok (.lconst 0, 1) := by decide +kernel
theorem dX9_mend_3 : decode cX9_mend 3 = .ok (.lconst 1, 1) := by decide +kernel
theorem dX9_mend_4 : decode cX9_mend 4 = .ok (.invokestatic 71, 3) := by decide +kernel
theorem dX9_mend_7 : decode cX9_mend 7 = .ok (.ifCond .ne 5, 3) := by decide +kernel
theorem dX9_mend_10 : decode cX9_mend 10 = .ok (.iconst (-1), 1) := by decide +kernel
theorem dX9_mend_11 : decode cX9_mend 11 = .ok (.ireturn, 1) := by decide +kernel
theorem dX9_mend_12 : decode cX9_mend 12 = .ok (.iconst 0, 1) := by decide +kernel
theorem dX9_mend_13 : decode cX9_mend 13 = .ok (.istore_n 2, 1) := by decide +kernel
theorem dX9_mend_14 : decode cX9_mend 14 = .ok (.iload_n 2, 1) := by decide +kernel
theorem dX9_mend_15 : decode cX9_mend 15 = .ok (.aload_n 0, 1) := by decide +kernel
theorem dX9_mend_16 : decode cX9_mend 16 = .ok (.getfield 7, 3) := by decide +kernel
theorem dX9_mend_19 : decode cX9_mend 19 = .ok (.iconst 0, 1) := by decide +kernel
theorem dX9_mend_20 : decode cX9_mend 20 = .ok (.iaload, 1) := by decide +kernel
theorem dX9_mend_21 : decode cX9_mend 21 = .ok (.if_icmp .ge 39, 3) := by decide +kernel
theorem dX9_mend_24 : decode cX9_mend 24 = .ok (.aload_n 0, 1) := by decide +kernel
theorem dX9_mend_25 : decode cX9_mend 25 = .ok (.getfield 31, 3) := by decide +kernel
theorem dX9_mend_28 : decode cX9_mend 28 = .ok (.iconst 2, 1) := by decide +kernel
theorem dX9_mend_29 : decode cX9_mend 29 = .ok (.iload_n 2, 1) := by decide +kernel
theorem dX9_mend_30 : decode cX9_mend 30 = .ok (.imul, 1) := by decide +kernel
theorem dX9_mend_31 : decode cX9_mend 31 = .ok (.aload_n 0, 1) := by decide +kernel
theorem dX9_mend_32 : decode cX9_mend 32 = .ok (.iload_n 2, 1) := by decide +kernel
theorem dX9_mend_33 : decode cX9_mend 33 = .ok (.iconst 1, 1) := by decide +kernel
theorem dX9_mend_34 : decode cX9_mend 34 = .ok (.invokevirtual 143, 3) := by decide +kernel
theorem dX9_mend_37 : decode cX9_mend 37 = .ok (.iastore, 1) := by decide +kernel
theorem dX9_mend_38 : decode cX9_mend 38 = .ok (.aload_n 0, 1) := by decide +kernel
theorem dX9_mend_39 : decode cX9_mend 39 = .ok (.getfield 31, 3) := by decide +kernel
theorem dX9_mend_42 : decode cX9_mend 42 = .ok (.iconst 2, 1) := by decide +kernel
theorem dX9_mend_43 : decode cX9_mend 43 = .ok (.iload_n 2, 1) := by decide +kernel
theorem dX9_mend_44 : decode cX9_mend 44 = .ok (.imul, 1) := by decide +kernel
theorem dX9_mend_45 : decode cX9_mend 45 = .ok (.iconst 1, 1) := by decide +kernel
theorem dX9_mend_46 : decode cX9_mend 46 = .ok (.iadd, 1) := by decide +kernel
theorem dX9_mend_47 : decode cX9_mend 47 = .ok (.aload_n 0, 1) := by decide +kernel
theorem dX9_mend_48 : decode cX9_mend 48 = .ok (.iload_n 2, 1) := by decide +kernel
theorem dX9_mend_49 : decode cX9_mend 49 = .ok (.iconst 2, 1) := by decide +kernel
theorem dX9_mend_50 : decode cX9_mend 50 = .ok (.invokevirtual 143, 3) := by decide +kernel
theorem dX9_mend_53 : decode cX9_mend 53 = .ok (.iastore, 1) := by decide +kernel
theorem dX9_mend_54 : decode cX9_mend 54 = .ok (.iinc 2 1, 3) := by decide +kernel
theorem dX9_mend_57 : decode cX9_mend 57 = .ok (.goto (-43), 3) := by decide +kernel
theorem dX9_mend_60 : decode cX9_mend 60 = .ok (.iconst 0, 1) := by decide +kernel
theorem dX9_mend_61 : decode cX9_mend 61 = .ok (.istore_n 2, 1) := by decide +kernel
theorem dX9_mend_62 : decode cX9_mend 62 = .ok (.iconst 0, 1) := by decide +kernel
theorem dX9_mend_63 : decode cX9_mend 63 = .ok (.istore_n 3, 1) := by decide +kernel
theorem dX9_mend_64 : decode cX9_mend 64 = .ok (.iload_n 3, 1) := by decide +kernel
theorem dX9_mend_65 : decode cX9_mend 65 = .ok (.aload_n 0, 1) := by decide +kernel
theorem dX9_mend_66 : decode cX9_mend 66 = .ok (.getfield 7, 3) := by decide +kernel
theorem dX9_mend_69 : decode cX9_mend 69 = .ok (.iconst 0, 1) := by decide +kernel
theorem dX9_mend_70 : decode cX9_mend 70 = .ok (.iaload, 1) := by decide +kernel
theorem dX9_mend_71 : decode cX9_mend 71 = .ok (.if_icmp .ge 62, 3) := by decide +kernel
theorem dX9_mend_74 : decode cX9_mend 74 = .ok (.aload_n 0, 1) := by decide +kernel
theorem dX9_mend_75 : decode cX9_mend 75 = .ok (.iload_n 3, 1) := by decide +kernel
theorem dX9_mend_76 : decode cX9_mend 76 = .ok (.invokevirtual 245, 3) := by decide +kernel
theorem dX9_mend_79 : decode cX9_mend 79 = .ok (.ifCond .eq 48, 3) := by decide +kernel
theorem dX9_mend_82 : decode cX9_mend 82 = .ok (.aload_n 0, 1) := by decide +kernel
theorem dX9_mend_83 : decode cX9_mend 83 = .ok (.iload_n 3, 1) := by decide +kernel
theorem dX9_mend_84 : decode cX9_mend 84 = .ok (.invokevirtual 294, 3) := by decide +kernel
theorem dX9_mend_87 : decode cX9_mend 87 = .ok (.ifCond .eq 40, 3) := by decide +kernel
theorem dX9_mend_90 : decode cX9_mend 90 = .ok (.aload_n 0, 1) := by decide +kernel
theorem dX9_mend_91 : decode cX9_mend 91 = .ok (.getfield 7, 3) := by decide +kernel
theorem dX9_mend_94 : decode cX9_mend 94 = .ok (.iconst 1, 1) := by decide +kernel
theorem dX9_mend_95 : decode cX9_mend 95 = .ok (.bipush 6, 2) := by decide +kernel
theorem dX9_mend_97 : decode cX9_mend 97 = .ok (.iload_n 3, 1) := by decide +kernel
theorem dX9_mend_98 : decode cX9_mend 98 = .ok (.imul, 1) := by decide +kernel
theorem dX9_mend_99 : decode cX9_mend 99 = .ok (.iadd, 1) := by decide +kernel
theorem dX9_mend_100 : decode cX9_mend 100 = .ok (.iconst 1, 1) := by decide +kernel
theorem dX9_mend_101 : decode cX9_mend 101 = .ok (.iadd, 1) := by decide +kernel
theorem dX9_mend_102 : decode cX9_mend 102 = .ok (.aload_n 0, 1) := by decide +kernel
theorem dX9_mend_103 : decode cX9_mend 103 = .ok (.getfield 282, 3) := by decide +kernel
theorem dX9_mend_106 : decode cX9_mend 106 = .ok (.iastore, 1) := by decide +kernel
theorem dX9_mend_107 : decode cX9_mend 107 = .ok (.aload_n 0, 1) := by decide +kernel
theorem dX9_mend_108 : decode cX9_mend 108 = .ok (.getfield 7, 3) := by decide +kernel
theorem dX9_mend_111 : decode cX9_mend 111 = .ok (.iconst 1, 1) := by decide +kernel
theorem dX9_mend_112 : decode cX9_mend 112 = .ok (.bipush 6, 2) := by decide +kernel
theorem dX9_mend_114 : decode cX9_mend 114 = .ok (.iload_n 3, 1) := by decide +kernel
theorem dX9_mend_115 : decode cX9_mend 115 = .ok (.imul, 1) := by decide +kernel
theorem dX9_mend_116 : decode cX9_mend 116 = .ok (.iadd, 1) := by decide +kernel
theorem dX9_mend_117 : decode cX9_mend 117 = .ok (.iconst 2, 1) := by decide +kernel
theorem dX9_mend_118 : decode cX9_mend 118 = .ok (.iadd, 1) := by decide +kernel
theorem dX9_mend_119 : decode cX9_mend 119 = .ok (.aload_n 0, 1) := by decide +kernel
theorem dX9_mend_120 : decode cX9_mend 120 = .ok (.getfield 291, 3) := by decide +kernel
theorem dX9_mend_123 : decode cX9_mend 123 = .ok (.iastore, 1) := by decide +kernel
theorem dX9_mend_124 : decode cX9_mend 124 = .ok (.iinc 2 1, 3) := by decide +kernel
theorem dX9_mend_127 : decode cX9_mend 127 = .ok (.iinc 3 1, 3) := by decide +kernel
theorem dX9_mend_130 : decode cX9_mend 130 = .ok (.goto (-66), 3) := by decide +kernel
theorem dX9_mend_133 : decode cX9_mend 133 = .ok (.aload_n 0, 1) := by decide +kernel
theorem dX9_mend_134 : decode cX9_mend 134 = .ok (.invokevirtual 297, 3) := by decide +kernel
theorem dX9_mend_137 : decode cX9_mend 137 = .ok (.invokestatic 300, 3) := by decide +kernel
theorem dX9_mend_140 : decode cX9_mend 140 = .ok (.istore_n 3, 1) := by decide +kernel
theorem dX9_mend_141 : decode cX9_mend 141 = .ok (.iconst 0, 1) := by decide +kernel
theorem dX9_mend_142 : decode cX9_mend 142 = .ok (.istore 4, 2) := by decide +kernel
theorem dX9_mend_144 : decode cX9_mend 144 = .ok (.iload 4, 2) := by decide +kernel
theorem dX9_mend_146 : decode cX9_mend 146 = .ok (.aload_n 0, 1) := by decide +kernel
theorem dX9_mend_147 : decode cX9_mend 147 = .ok (.getfield 7, 3) := by decide +kernel
theorem dX9_mend_150 : decode cX9_mend 150 = .ok (.iconst 0, 1) := by decide +kernel
theorem dX9_mend_151 : decode cX9_mend 151 = .ok (.iaload, 1) := by decide +kernel
theorem dX9_mend_152 : decode cX9_mend 152 = .ok (.if_icmp .ge 57, 3) := by decide +kernel
theorem dX9_mend_155 : decode cX9_mend 155 = .ok (.aload_n 0, 1) := by decide +kernel
theorem dX9_mend_156 : decode cX9_mend 156 = .ok (.getfield 7, 3) := by decide +kernel
theorem dX9_mend_159 : decode cX9_mend 159 = .ok (.iconst 1, 1) := by decide +kernel
theorem dX9_mend_160 : decode cX9_mend 160 = .ok (.bipush 6, 2) := by decide +kernel
theorem dX9_mend_162 : decode cX9_mend 162 = .ok (.iload 4, 2) := by decide +kernel
theorem dX9_mend_164 : decode cX9_mend 164 = .ok (.imul, 1) := by decide +kernel
theorem dX9_mend_165 : decode cX9_mend 165 = .ok (.iadd, 1) := by decide +kernel
theorem dX9_mend_166 : decode cX9_mend 166 = .ok (.iconst 1, 1) := by decide +kernel
theorem dX9_mend_167 : decode cX9_mend 167 = .ok (.iadd, 1) := by decide +kernel
theorem dX9_mend_168 : decode cX9_mend 168 = .ok (.aload_n 0, 1) := by decide +kernel
theorem dX9_mend_169 : decode cX9_mend 169 = .ok (.getfield 31, 3) := by decide +kernel
theorem dX9_mend_172 : decode cX9_mend 172 = .ok (.iconst 2, 1) := by decide +kernel
theorem dX9_mend_173 : decode cX9_mend 173 = .ok (.iload 4, 2) := by decide +kernel
theorem dX9_mend_175 : decode cX9_mend 175 = .ok (.imul, 1) := by decide +kernel
theorem dX9_mend_176 : decode cX9_mend 176 = .ok (.iaload, 1) := by decide +kernel
theorem dX9_mend_177 : decode cX9_mend 177 = .ok (.iastore, 1) := by decide +kernel
theorem dX9_mend_178 : decode cX9_mend 178 = .ok (.aload_n 0, 1) := by decide +kernel
theorem dX9_mend_179 : decode cX9_mend 179 = .ok (.getfield 7, 3) := by decide +kernel
theorem dX9_mend_182 : decode cX9_mend 182 = .ok (.iconst 1, 1) := by decide +kernel
theorem dX9_mend_183 : decode cX9_mend 183 = .ok (.bipush 6, 2) := by decide +kernel
theorem dX9_mend_185 : decode cX9_mend 185 = .ok (.iload 4, 2) := by decide +kernel
theorem dX9_mend_187 : decode cX9_mend 187 = .ok (.imul, 1) := by decide +kernel
theorem dX9_mend_188 : decode cX9_mend 188 = .ok (.iadd, 1) := by decide +kernel
theorem dX9_mend_189 : decode cX9_mend 189 = .ok (.iconst 2, 1) := by decide +kernel
theorem dX9_mend_190 : decode cX9_mend 190 = .ok (.iadd, 1) := by decide +kernel
theorem dX9_mend_191 : decode cX9_mend 191 = .ok (.aload_n 0, 1) := by decide +kernel
theorem dX9_mend_192 : decode cX9_mend 192 = .ok (.getfield 31, 3) := by decide +kernel
theorem dX9_mend_195 : decode cX9_mend 195 = .ok (.iconst 2, 1) := by decide +kernel
theorem dX9_mend_196 : decode cX9_mend 196 = .ok (.iload 4, 2) := by decide +kernel
theorem dX9_mend_198 : decode cX9_mend 198 = .ok (.imul, 1) := by decide +kernel
theorem dX9_mend_199 : decode cX9_mend 199 = .ok (.iconst 1, 1) := by decide +kernel
theorem dX9_mend_200 : decode cX9_mend 200 = .ok (.iadd, 1) := by decide +kernel
theorem dX9_mend_201 : decode cX9_mend 201 = .ok (.iaload, 1) := by decide +kernel
theorem dX9_mend_202 : decode cX9_mend 202 = .ok (.iastore, 1) := by decide +kernel
theorem dX9_mend_203 : decode cX9_mend 203 = .ok (.iinc 4 1, 3) := by decide +kernel
theorem dX9_mend_206 : decode cX9_mend 206 = .ok (.goto (-62), 3) := by decide +kernel
theorem dX9_mend_209 : decode cX9_mend 209 = .ok (.iload_n 1, 1) := by decide +kernel
theorem dX9_mend_210 : decode cX9_mend 210 = .ok (.ifCond .ne 7, 3) := by decide +kernel
theorem dX9_mend_213 : decode cX9_mend 213 = .ok (.iload_n 2, 1) := by decide +kernel
theorem dX9_mend_214 : decode cX9_mend 214 = .ok (.goto 4, 3) := by decide +kernel
theorem dX9_mend_217 : decode cX9_mend 217 = .ok (.iload_n 3, 1) := by decide +kernel
theorem dX9_mend_218 : decode cX9_mend 218 = .ok (.ireturn, 1) := by decide +kernel
theorem dX9_hold_0 : decode cX9_hold 0 = .ok (.iload_n 1, 1) := by decide +kernel
theorem dX9_hold_1 : decode cX9_hold 1 = .ok (.i2l, 1) := by decide +kernel
theorem dX9_hold_2 : decode cX9_hold 2 = .ok (.lconst 0, 1) := by decide +kernel
theorem dX9_hold_3 : decode cX9_hold 3 = .ok (.aload_n 0, 1) := by decide +kernel
theorem dX9_hold_4 : decode cX9_hold 4 = .ok (.getfield 7, 3) := by decide +kernel
theorem dX9_hold_7 : decode cX9_hold 7 = .ok (.bipush 37, 2) := by decide +kernel
theorem dX9_hold_9 : decode cX9_hold 9 = .ok (.iaload, 1) := by decide +kernel
theorem dX9_hold_10 : decode cX9_hold 10 = .ok (.i2l, 1) := by decide +kernel
theorem dX9_hold_11 : decode cX9_hold 11 = .ok (.invokestatic 71, 3) := by decide +kernel
theorem dX9_hold_14 : decode cX9_hold 14 = .ok (.ifCond .ne 5, 3) := by decide +kernel
theorem dX9_hold_17 : decode cX9_hold 17 = .ok (.iconst (-1), 1) := by decide +kernel
theorem dX9_hold_18 : decode cX9_hold 18 = .ok (.ireturn, 1) := by decide +kernel
theorem dX9_hold_19 : decode cX9_hold 19 = .ok (.iconst 0, 1) := by decide +kernel
theorem dX9_hold_20 : decode cX9_hold 20 = .ok (.istore_n 2, 1) := by decide +kernel
theorem dX9_hold_21 : decode cX9_hold 21 = .ok (.iload_n 2, 1) := by decide +kernel
theorem dX9_hold_22 : decode cX9_hold 22 = .ok (.iload_n 1, 1) := by decide +kernel
theorem dX9_hold_23 : decode cX9_hold 23 = .ok (.if_icmp .ge 114, 3) := by decide +kernel
theorem dX9_hold_26 : decode cX9_hold 26 = .ok (.bipush 38, 2) := by decide +kernel
theorem dX9_hold_28 : decode cX9_hold 28 = .ok (.iconst 5, 1) := by decide +kernel
theorem dX9_hold_29 : decode cX9_hold 29 = .ok (.iload_n 2, 1) := by decide +kernel
theorem dX9_hold_30 : decode cX9_hold 30 = .ok (.imul, 1) := by decide +kernel
theorem dX9_hold_31 : decode cX9_hold 31 = .ok (.iadd, 1) := by decide +kernel
theorem dX9_hold_32 : decode cX9_hold 32 = .ok (.istore_n 3, 1) := by decide +kernel
theorem dX9_hold_33 : decode cX9_hold 33 = .ok (.iconst 1, 1) := by decide +kernel
theorem dX9_hold_34 : decode cX9_hold 34 = .ok (.bipush 6, 2) := by decide +kernel
theorem dX9_hold_36 : decode cX9_hold 36 = .ok (.aload_n 0, 1) := by decide +kernel
theorem dX9_hold_37 : decode cX9_hold 37 = .ok (.getfield 7, 3) := by decide +kernel
theorem dX9_hold_40 : decode cX9_hold 40 = .ok (.iload_n 3, 1) := by decide +kernel
theorem dX9_hold_41 : decode cX9_hold 41 = .ok (.iconst 1, 1) := by decide +kernel
theorem dX9_hold_42 : decode cX9_hold 42 = .ok (.iadd, 1) := by decide +kernel
theorem dX9_hold_43 : decode cX9_hold 43 = .ok (.iaload, 1) := by decide +kernel
theorem dX9_hold_44 : decode cX9_hold 44 = .ok (.imul, 1) := by decide +kernel
theorem dX9_hold_45 : decode cX9_hold 45 = .ok (.iadd, 1) := by decide +kernel
theorem dX9_hold_46 : decode cX9_hold 46 = .ok (.istore 4, 2) := by decide +kernel
theorem dX9_hold_48 : decode cX9_hold 48 = .ok (.aload_n 0, 1) := by decide +kernel
theorem dX9_hold_49 : decode cX9_hold 49 = .ok (.getfield 7, 3) := by decide +kernel
theorem dX9_hold_52 : decode cX9_hold 52 = .ok (.iload 4, 2) := by decide +kernel
theorem dX9_hold_54 : decode cX9_hold 54 = .ok (.iconst 0, 1) := by decide +kernel
theorem dX9_hold_55 : decode cX9_hold 55 = .ok (.iadd, 1) := by decide +kernel
theorem dX9_hold_56 : decode cX9_hold 56 = .ok (.iconst 0, 1) := by decide +kernel
theorem dX9_hold_57 : decode cX9_hold 57 = .ok (.iastore, 1) := by decide +kernel
theorem dX9_hold_58 : decode cX9_hold 58 = .ok (.aload_n 0, 1) := by decide +kernel
theorem dX9_hold_59 : decode cX9_hold 59 = .ok (.getfield 7, 3) := by decide +kernel
theorem dX9_hold_62 : decode cX9_hold 62 = .ok (.iload 4, 2) := by decide +kernel
theorem dX9_hold_64 : decode cX9_hold 64 = .ok (.iconst 1, 1) := by decide +kernel
theorem dX9_hold_65 : decode cX9_hold 65 = .ok (.iadd, 1) := by decide +kernel
theorem dX9_hold_66 : decode cX9_hold 66 = .ok (.aload_n 0, 1) := by decide +kernel
theorem dX9_hold_67 : decode cX9_hold 67 = .ok (.getfield 7, 3) := by decide +kernel
theorem dX9_hold_70 : decode cX9_hold 70 = .ok (.iload_n 3, 1) := by decide +kernel
theorem dX9_hold_71 : decode cX9_hold 71 = .ok (.iconst 2, 1) := by decide +kernel
theorem dX9_hold_72 : decode cX9_hold 72 = .ok (.iadd, 1) := by decide +kernel
theorem dX9_hold_73 : decode cX9_hold 73 = .ok (.iaload, 1) := by decide +kernel
theorem dX9_hold_74 : decode cX9_hold 74 = .ok (.iastore, 1) := by decide +kernel
theorem dX9_hold_75 : decode cX9_hold 75 = .ok (.aload_n 0, 1) := by decide +kernel
theorem dX9_hold_76 : decode cX9_hold 76 = .ok (.getfield 7, 3) := by decide +kernel
theorem dX9_hold_79 : decode cX9_hold 79 = .ok (.iload 4, 2) := by decide +kernel
theorem dX9_hold_81 : decode cX9_hold 81 = .ok (.iconst 2, 1) := by decide +kernel
theorem dX9_hold_82 : decode cX9_hold 82 = .ok (.iadd, 1) := by decide +kernel
theorem dX9_hold_83 : decode cX9_hold 83 = .ok (.aload_n 0, 1) := by decide +kernel
theorem dX9_hold_84 : decode cX9_hold 84 = .ok (.getfield 7, 3) := by decide +kernel
theorem dX9_hold_87 : decode cX9_hold 87 = .ok (.iload_n 3, 1) := by decide +kernel
theorem dX9_hold_88 : decode cX9_hold 88 = .ok (.iconst 3, 1) := by decide +kernel
theorem dX9_hold_89 : decode cX9_hold 89 = .ok (.iadd, 1) := by decide +kernel
theorem dX9_hold_90 : decode cX9_hold 90 = .ok (.iaload, 1) := by decide +kernel
theorem dX9_hold_91 : decode cX9_hold 91 = .ok (.iastore, 1) := by decide +kernel
theorem dX9_hold_92 : decode cX9_hold 92 = .ok (.aload_n 0, 1) := by decide +kernel
theorem dX9_hold_93 : decode cX9_hold 93 = .ok (.getfield 7, 3) := by decide +kernel
theorem dX9_hold_96 : decode cX9_hold 96 = .ok (.iload 4, 2) := by decide +kernel
theorem dX9_hold_98 : decode cX9_hold 98 = .ok (.iconst 3, 1) := by decide +kernel
theorem dX9_hold_99 : decode cX9_hold 99 = .ok (.iadd, 1) := by decide +kernel
theorem dX9_hold_100 : decode cX9_hold 100 = .ok (.aload_n 0, 1) := by decide +kernel
theorem dX9_hold_101 : decode cX9_hold 101 = .ok (.getfield 7, 3) := by decide +kernel
theorem dX9_hold_104 : decode cX9_hold 104 = .ok (.iload_n 3, 1) := by decide +kernel
theorem dX9_hold_105 : decode cX9_hold 105 = .ok (.iconst 4, 1) := by decide +kernel
theorem dX9_hold_106 : decode cX9_hold 106 = .ok (.iadd, 1) := by decide +kernel
theorem dX9_hold_107 : decode cX9_hold 107 = .ok (.iaload, 1) := by decide +kernel
theorem dX9_hold_108 : decode cX9_hold 108 = .ok (.iastore, 1) := by decide +kernel
theorem dX9_hold_109 : decode cX9_hold 109 = .ok (.aload_n 0, 1) := by decide +kernel
theorem dX9_hold_110 : decode cX9_hold 110 = .ok (.getfield 7, 3) := by decide +kernel
theorem dX9_hold_113 : decode cX9_hold 113 = .ok (.iload 4, 2) := by decide +kernel
theorem dX9_hold_115 : decode cX9_hold 115 = .ok (.iconst 4, 1) := by decide +kernel
theorem dX9_hold_116 : decode cX9_hold 116 = .ok (.iadd, 1) := by decide +kernel
theorem dX9_hold_117 : decode cX9_hold 117 = .ok (.bipush (-4), 2) := by decide +kernel
theorem dX9_hold_119 : decode cX9_hold 119 = .ok (.iastore, 1) := by decide +kernel
theorem dX9_hold_120 : decode cX9_hold 120 = .ok (.aload_n 0, 1) := by decide +kernel
theorem dX9_hold_121 : decode cX9_hold 121 = .ok (.getfield 7, 3) := by decide +kernel
theorem dX9_hold_124 : decode cX9_hold 124 = .ok (.iload 4, 2) := by decide +kernel
theorem dX9_hold_126 : decode cX9_hold 126 = .ok (.iconst 5, 1) := by decide +kernel
theorem dX9_hold_127 : decode cX9_hold 127 = .ok (.iadd, 1) := by decide +kernel
theorem dX9_hold_128 : decode cX9_hold 128 = .ok (.bipush (-4), 2) := by decide +kernel
theorem dX9_hold_130 : decode cX9_hold 130 = .ok (.iastore, 1) := by decide +kernel
theorem dX9_hold_131 : decode cX9_hold 131 = .ok (.iinc 2 1, 3) := by decide +kernel
theorem dX9_hold_134 : decode cX9_hold 134 = .ok (.goto (-113), 3) := by decide +kernel
theorem dX9_hold_137 : decode cX9_hold 137 = .ok (.aload_n 0, 1) := by decide +kernel
theorem dX9_hold_138 : decode cX9_hold 138 = .ok (.getfield 7, 3) := by decide +kernel
theorem dX9_hold_141 : decode cX9_hold 141 = .ok (.bipush 37, 2) := by decide +kernel
theorem dX9_hold_143 : decode cX9_hold 143 = .ok (.dup2, 1) := by decide +kernel
theorem dX9_hold_144 : decode cX9_hold 144 = .ok (.iaload, 1) := by decide +kernel
theorem dX9_hold_145 : decode cX9_hold 145 = .ok (.iload_n 1, 1) := by decide +kernel
theorem dX9_hold_146 : decode cX9_hold 146 = .ok (.isub, 1) := by decide +kernel
theorem dX9_hold_147 : decode cX9_hold 147 = .ok (.iastore, 1) := by decide +kernel
theorem dX9_hold_148 : decode cX9_hold 148 = .ok (.iconst 0, 1) := by decide +kernel
theorem dX9_hold_149 : decode cX9_hold 149 = .ok (.istore_n 2, 1) := by decide +kernel
theorem dX9_hold_150 : decode cX9_hold 150 = .ok (.iload_n 2, 1) := by decide +kernel
theorem dX9_hold_151 : decode cX9_hold 151 = .ok (.iconst 5, 1) := by decide +kernel
theorem dX9_hold_152 : decode cX9_hold 152 = .ok (.aload_n 0, 1) := by decide +kernel
theorem dX9_hold_153 : decode cX9_hold 153 = .ok (.getfield 7, 3) := by decide +kernel
theorem dX9_hold_156 : decode cX9_hold 156 = .ok (.bipush 37, 2) := by decide +kernel
theorem dX9_hold_158 : decode cX9_hold 158 = .ok (.iaload, 1) := by decide +kernel
theorem dX9_hold_159 : decode cX9_hold 159 = .ok (.imul, 1) := by decide +kernel
theorem dX9_hold_160 : decode cX9_hold 160 = .ok (.if_icmp .ge 31, 3) := by decide +kernel
theorem dX9_hold_163 : decode cX9_hold 163 = .ok (.aload_n 0, 1) := by decide +kernel
theorem dX9_hold_164 : decode cX9_hold 164 = .ok (.getfield 7, 3) := by decide +kernel
theorem dX9_hold_167 : decode cX9_hold 167 = .ok (.bipush 38, 2) := by decide +kernel
theorem dX9_hold_169 : decode cX9_hold 169 = .ok (.iload_n 2, 1) := by decide +kernel
theorem dX9_hold_170 : decode cX9_hold 170 = .ok (.iadd, 1) := by decide +kernel
theorem dX9_hold_171 : decode cX9_hold 171 = .ok (.aload_n 0, 1) := by decide +kernel
theorem dX9_hold_172 : decode cX9_hold 172 = .ok (.getfield 7, 3) := by decide +kernel
theorem dX9_hold_175 : decode cX9_hold 175 = .ok (.bipush 38, 2) := by decide +kernel
theorem dX9_hold_177 : decode cX9_hold 177 = .ok (.iconst 5, 1) := by decide +kernel
theorem dX9_hold_178 : decode cX9_hold 178 = .ok (.iload_n 1, 1) := by decide +kernel
theorem dX9_hold_179 : decode cX9_hold 179 = .ok (.imul, 1) := by decide +kernel
theorem dX9_hold_180 : decode cX9_hold 180 = .ok (.iadd, 1) := by decide +kernel
theorem dX9_hold_181 : decode cX9_hold 181 = .ok (.iload_n 2, 1) := by decide +kernel
theorem dX9_hold_182 : decode cX9_hold 182 = .ok (.iadd, 1) := by decide +kernel
theorem dX9_hold_183 : decode cX9_hold 183 = .ok (.iaload, 1) := by decide +kernel
theorem dX9_hold_184 : decode cX9_hold 184 = .ok (.iastore, 1) := by decide +kernel
theorem dX9_hold_185 : decode cX9_hold 185 = .ok (.iinc 2 1, 3) := by decide +kernel
theorem dX9_hold_188 : decode cX9_hold 188 = .ok (.goto (-38), 3) := by decide +kernel
theorem dX9_hold_191 : decode cX9_hold 191 = .ok (.aload_n 0, 1) := by decide +kernel
theorem dX9_hold_192 : decode cX9_hold 192 = .ok (.invokevirtual 297, 3) := by decide +kernel
theorem dX9_hold_195 : decode cX9_hold 195 = .ok (.invokestatic 300, 3) := by decide +kernel
theorem dX9_hold_198 : decode cX9_hold 198 = .ok (.ireturn, 1) := by decide +kernel
theorem dX9_ask_0 : decode cX9_ask 0 = .ok (.aload_n 0, 1) := by decide +kernel
theorem dX9_ask_1 : decode cX9_ask 1 = .ok (.getfield 7, 3) := by decide +kernel
theorem dX9_ask_4 : decode cX9_ask 4 = .ok (.bipush 37, 2) := by decide +kernel
theorem dX9_ask_6 : decode cX9_ask 6 = .ok (.iaload, 1) := by decide +kernel
theorem dX9_ask_7 : decode cX9_ask 7 = .ok (.istore 6, 2) := by decide +kernel
theorem dX9_ask_9 : decode cX9_ask 9 = .ok (.bipush 38, 2) := by decide +kernel
theorem dX9_ask_11 : decode cX9_ask 11 = .ok (.iconst 5, 1) := by decide +kernel
theorem dX9_ask_12 : decode cX9_ask 12 = .ok (.iload 6, 2) := by decide +kernel
theorem dX9_ask_14 : decode cX9_ask 14 = .ok (.imul, 1) := by decide +kernel
theorem dX9_ask_15 : decode cX9_ask 15 = .ok (.iadd, 1) := by decide +kernel
theorem dX9_ask_16 : decode cX9_ask 16 = .ok (.istore 7, 2) := by decide +kernel
theorem dX9_ask_18 : decode cX9_ask 18 = .ok (.iload_n 1, 1) := by decide +kernel
theorem dX9_ask_19 : decode cX9_ask 19 = .ok (.i2l, 1) := by decide +kernel
theorem dX9_ask_20 : decode cX9_ask 20 = .ok (.iload 6, 2) := by decide +kernel
theorem dX9_ask_22 : decode cX9_ask 22 = .ok (.ifCond .ne 7, 3) := by decide +kernel
theorem dX9_ask_25 : decode cX9_ask 25 = .ok (.lconst 0, 1) := by decide +kernel
theorem dX9_ask_26 : decode cX9_ask 26 = .ok (.goto 13, 3) := by decide +kernel
theorem dX9_ask_29 : decode cX9_ask 29 = .ok (.aload_n 0, 1) := by decide +kernel
theorem dX9_ask_30 : decode cX9_ask 30 = .ok (.getfield 7, 3) := by decide +kernel
theorem dX9_ask_33 : decode cX9_ask 33 = .ok (.iload 7, 2) := by decide +kernel
theorem dX9_ask_35 : decode cX9_ask 35 = .ok (.iconst 5, 1) := by decide +kernel
theorem dX9_ask_36 : decode cX9_ask 36 = .ok (.isub, 1) := by decide +kernel
theorem dX9_ask_37 : decode cX9_ask 37 = .ok (.iaload, 1) := by decide +kernel
theorem dX9_ask_38 : decode cX9_ask 38 = .ok (.i2l, 1) := by decide +kernel
theorem dX9_ask_39 : decode cX9_ask 39 = .ok (.ldc2_w 303, 3) := by decide +kernel
theorem dX9_ask_42 : decode cX9_ask 42 = .ok (.invokestatic 71, 3) := by decide +kernel
theorem dX9_ask_45 : decode cX9_ask 45 = .ok (.ifCond .eq 52, 3) := by decide +kernel
theorem dX9_ask_48 : decode cX9_ask 48 = .ok (.aload_n 0, 1) := by decide +kernel
theorem dX9_ask_49 : decode cX9_ask 49 = .ok (.iload_n 2, 1) := by decide +kernel
theorem dX9_ask_50 : decode cX9_ask 50 = .ok (.invokevirtual 146, 3) := by decide +kernel
theorem dX9_ask_53 : decode cX9_ask 53 = .ok (.ifCond .eq 44, 3) := by decide +kernel
theorem dX9_ask_56 : decode cX9_ask 56 = .ok (.iload_n 3, 1) := by decide +kernel
theorem dX9_ask_57 : decode cX9_ask 57 = .ok (.i2l, 1) := by decide +kernel
theorem dX9_ask_58 : decode cX9_ask 58 = .ok (.ldc2_w 278, 3) := by decide +kernel
theorem dX9_ask_61 : decode cX9_ask 61 = .ok (.ldc2_w 280, 3) := by decide +kernel
theorem dX9_ask_64 : decode cX9_ask 64 = .ok (.invokestatic 71, 3) := by decide +kernel
theorem dX9_ask_67 : decode cX9_ask 67 = .ok (.ifCond .eq 30, 3) := by decide +kernel
theorem dX9_ask_70 : decode cX9_ask 70 = .ok (.iload 4, 2) := by decide +kernel
theorem dX9_ask_72 : decode cX9_ask 72 = .ok (.i2l, 1) := by decide +kernel
theorem dX9_ask_73 : decode cX9_ask 73 = .ok (.lconst 0, 1) := by decide +kernel
theorem dX9_ask_74 : decode cX9_ask 74 = .ok (.iload_n 3, 1) := by decide +kernel
theorem dX9_ask_75 : decode cX9_ask 75 = .ok (.iconst 1, 1) := by decide +kernel
theorem dX9_ask_76 : decode cX9_ask 76 = .ok (.isub, 1) := by decide +kernel
theorem dX9_ask_77 : decode cX9_ask 77 = .ok (.i2l, 1) := by decide +kernel
theorem dX9_ask_78 : decode cX9_ask 78 = .ok (.invokestatic 71, 3) := by decide +kernel
theorem dX9_ask_81 : decode cX9_ask 81 = .ok (.ifCond .eq 16, 3) := by decide +kernel
theorem dX9_ask_84 : decode cX9_ask 84 = .ok (.iload 5, 2) := by decide +kernel
theorem dX9_ask_86 : decode cX9_ask 86 = .ok (.i2l, 1) := by decide +kernel
theorem dX9_ask_87 : decode cX9_ask 87 = .ok (.lconst 0, 1) := by decide +kernel
theorem dX9_ask_88 : decode cX9_ask 88 = .ok (.ldc2_w 276, 3) := by decide +kernel
theorem dX9_ask_91 : decode cX9_ask 91 = .ok (.invokestatic 71, 3) := by decide +kernel
theorem dX9_ask_94 : decode cX9_ask 94 = .ok (.ifCond .ne 5, 3) := by decide +kernel
theorem dX9_ask_97 : decode cX9_ask 97 = .ok (.iconst (-1), 1) := by decide +kernel
theorem dX9_ask_98 : decode cX9_ask 98 = .ok (.ireturn, 1) := by decide +kernel
theorem dX9_ask_99 : decode cX9_ask 99 = .ok (.iload 6, 2) := by decide +kernel
theorem dX9_ask_101 : decode cX9_ask 101 = .ok (.bipush 6, 2) := by decide +kernel
theorem dX9_ask_103 : decode cX9_ask 103 = .ok (.if_icmp .ne 6, 3) := by decide +kernel
theorem dX9_ask_106 : decode cX9_ask 106 = .ok (.bipush (-3), 2) := by decide +kernel
theorem dX9_ask_108 : decode cX9_ask 108 = .ok (.ireturn, 1) := by decide +kernel
theorem dX9_ask_109 : decode cX9_ask 109 = .ok (.aload_n 0, 1) := by decide +kernel
theorem dX9_ask_110 : decode cX9_ask 110 = .ok (.getfield 7, 3) := by decide +kernel
theorem dX9_ask_113 : decode cX9_ask 113 = .ok (.iload 7, 2) := by decide +kernel
theorem dX9_ask_115 : decode cX9_ask 115 = .ok (.iload_n 1, 1) := by decide +kernel
theorem dX9_ask_116 : decode cX9_ask 116 = .ok (.iastore, 1) := by decide +kernel
theorem dX9_ask_117 : decode cX9_ask 117 = .ok (.aload_n 0, 1) := by decide +kernel
theorem dX9_ask_118 : decode cX9_ask 118 = .ok (.getfield 7, 3) := by decide +kernel
theorem dX9_ask_121 : decode cX9_ask 121 = .ok (.iload 7, 2) := by decide +kernel
theorem dX9_ask_123 : decode cX9_ask 123 = .ok (.iconst 1, 1) := by decide +kernel
theorem dX9_ask_124 : decode cX9_ask 124 = .ok (.iadd, 1) := by decide +kernel
theorem dX9_ask_125 : decode cX9_ask 125 = .ok (.iload_n 2, 1) := by decide +kernel
theorem dX9_ask_126 : decode cX9_ask 126 = .ok (.iastore, 1) := by decide +kernel
theorem dX9_ask_127 : decode cX9_ask 127 = .ok (.aload_n 0, 1) := by decide +kernel
theorem dX9_ask_128 : decode cX9_ask 128 = .ok (.getfield 7, 3) := by decide +kernel
theorem dX9_ask_131 : decode cX9_ask 131 = .ok (.iload 7, 2) := by decide +kernel
theorem dX9_ask_133 : decode cX9_ask 133 = .ok (.iconst 2, 1) := by decide +kernel
theorem dX9_ask_134 : decode cX9_ask 134 = .ok (.iadd, 1) := by decide +kernel
theorem dX9_ask_135 : decode cX9_ask 135 = .ok (.iload_n 3, 1) := by decide +kernel
theorem dX9_ask_136 : decode cX9_ask 136 = .ok (.iastore, 1) := by decide +kernel
theorem dX9_ask_137 : decode cX9_ask 137 = .ok (.aload_n 0, 1) := by decide +kernel
theorem dX9_ask_138 : decode cX9_ask 138 = .ok (.getfield 7, 3) := by decide +kernel
theorem dX9_ask_141 : decode cX9_ask 141 = .ok (.iload 7, 2) := by decide +kernel
theorem dX9_ask_143 : decode cX9_ask 143 = .ok (.iconst 3, 1) := by decide +kernel
theorem dX9_ask_144 : decode cX9_ask 144 = .ok (.iadd, 1) := by decide +kernel
theorem dX9_ask_145 : decode cX9_ask 145 = .ok (.iload 4, 2) := by decide +kernel
theorem dX9_ask_147 : decode cX9_ask 147 = .ok (.iastore, 1) := by decide +kernel
theorem dX9_ask_148 : decode cX9_ask 148 = .ok (.aload_n 0, 1) := by decide +kernel
theorem dX9_ask_149 : decode cX9_ask 149 = .ok (.getfield 7, 3) := by decide +kernel
theorem dX9_ask_152 : decode cX9_ask 152 = .ok (.iload 7, 2) := by decide +kernel
theorem dX9_ask_154 : decode cX9_ask 154 = .ok (.iconst 4, 1) := by decide +kernel
theorem dX9_ask_155 : decode cX9_ask 155 = .ok (.iadd, 1) := by decide +kernel
theorem dX9_ask_156 : decode cX9_ask 156 = .ok (.iload 5, 2) := by decide +kernel
theorem dX9_ask_158 : decode cX9_ask 158 = .ok (.iastore, 1) := by decide +kernel
theorem dX9_ask_159 : decode cX9_ask 159 = .ok (.aload_n 0, 1) := by decide +kernel
theorem dX9_ask_160 : decode cX9_ask 160 = .ok (.getfield 7, 3) := by decide +kernel
theorem dX9_ask_163 : decode cX9_ask 163 = .ok (.bipush 37, 2) := by decide +kernel
theorem dX9_ask_165 : decode cX9_ask 165 = .ok (.iload 6, 2) := by decide +kernel
theorem dX9_ask_167 : decode cX9_ask 167 = .ok (.iconst 1, 1) := by decide +kernel
theorem dX9_ask_168 : decode cX9_ask 168 = .ok (.iadd, 1) := by decide +kernel
theorem dX9_ask_169 : decode cX9_ask 169 = .ok (.iastore, 1) := by decide +kernel
theorem dX9_ask_170 : decode cX9_ask 170 = .ok (.iload 6, 2) := by decide +kernel
theorem dX9_ask_172 : decode cX9_ask 172 = .ok (.iconst 1, 1) := by decide +kernel
theorem dX9_ask_173 : decode cX9_ask 173 = .ok (.iadd, 1) := by decide +kernel
theorem dX9_ask_174 : decode cX9_ask 174 = .ok (.ireturn, 1) := by decide +kernel
theorem dX9_see_0 : decode cX9_see 0 = .ok (.aload_n 0, 1) := by decide +kernel
theorem dX9_see_1 : decode cX9_see 1 = .ok (.iload_n 1, 1) := by decide +kernel
theorem dX9_see_2 : decode cX9_see 2 = .ok (.invokevirtual 146, 3) := by decide +kernel
theorem dX9_see_5 : decode cX9_see 5 = .ok (.ifCond .eq 15, 3) := by decide +kernel
theorem dX9_see_8 : decode cX9_see 8 = .ok (.iload_n 2, 1) := by decide +kernel
theorem dX9_see_9 : decode cX9_see 9 = .ok (.i2l, 1) := by decide +kernel
theorem dX9_see_10 : decode cX9_see 10 = .ok (.lconst 0, 1) := by decide +kernel
theorem dX9_see_11 : decode cX9_see 11 = .ok (.ldc2_w 305, 3) := by decide +kernel
theorem dX9_see_14 : decode cX9_see 14 = .ok (.invokestatic 71, 3) := by decide +kernel
theorem dX9_see_17 : decode cX9_see 17 = .ok (.ifCond .ne 5, 3) := by decide +kernel
theorem dX9_see_20 : decode cX9_see 20 = .ok (.iconst (-1), 1) := by decide +kernel
theorem dX9_see_21 : decode cX9_see 21 = .ok (.ireturn, 1) := by decide +kernel
theorem dX9_see_22 : decode cX9_see 22 = .ok (.aload_n 0, 1) := by decide +kernel
theorem dX9_see_23 : decode cX9_see 23 = .ok (.getfield 7, 3) := by decide +kernel
theorem dX9_see_26 : decode cX9_see 26 = .ok (.bipush 71, 2) := by decide +kernel
theorem dX9_see_28 : decode cX9_see 28 = .ok (.iaload, 1) := by decide +kernel
theorem dX9_see_29 : decode cX9_see 29 = .ok (.bipush 12, 2) := by decide +kernel
theorem dX9_see_31 : decode cX9_see 31 = .ok (.if_icmp .ne 6, 3) := by decide +kernel
theorem dX9_see_34 : decode cX9_see 34 = .ok (.bipush (-3), 2) := by decide +kernel
theorem dX9_see_36 : decode cX9_see 36 = .ok (.ireturn, 1) := by decide +kernel
theorem dX9_see_37 : decode cX9_see 37 = .ok (.bipush 72, 2) := by decide +kernel
theorem dX9_see_39 : decode cX9_see 39 = .ok (.iconst 3, 1) := by decide +kernel
theorem dX9_see_40 : decode cX9_see 40 = .ok (.aload_n 0, 1) := by decide +kernel
theorem dX9_see_41 : decode cX9_see 41 = .ok (.getfield 7, 3) := by decide +kernel
theorem dX9_see_44 : decode cX9_see 44 = .ok (.bipush 71, 2) := by decide +kernel
theorem dX9_see_46 : decode cX9_see 46 = .ok (.iaload, 1) := by decide +kernel
theorem dX9_see_47 : decode cX9_see 47 = .ok (.imul, 1) := by decide +kernel
theorem dX9_see_48 : decode cX9_see 48 = .ok (.iadd, 1) := by decide +kernel
theorem dX9_see_49 : decode cX9_see 49 = .ok (.istore 4, 2) := by decide +kernel
theorem dX9_see_51 : decode cX9_see 51 = .ok (.aload_n 0, 1) := by decide +kernel
theorem dX9_see_52 : decode cX9_see 52 = .ok (.getfield 7, 3) := by decide +kernel
theorem dX9_see_55 : decode cX9_see 55 = .ok (.iload 4, 2) := by decide +kernel
theorem dX9_see_57 : decode cX9_see 57 = .ok (.iload_n 1, 1) := by decide +kernel
theorem dX9_see_58 : decode cX9_see 58 = .ok (.iastore, 1) := by decide +kernel
theorem dX9_see_59 : decode cX9_see 59 = .ok (.aload_n 0, 1) := by decide +kernel
theorem dX9_see_60 : decode cX9_see 60 = .ok (.getfield 7, 3) := by decide +kernel
theorem dX9_see_63 : decode cX9_see 63 = .ok (.iload 4, 2) := by decide +kernel
theorem dX9_see_65 : decode cX9_see 65 = .ok (.iconst 1, 1) := by decide +kernel
theorem dX9_see_66 : decode cX9_see 66 = .ok (.iadd, 1) := by decide +kernel
theorem dX9_see_67 : decode cX9_see 67 = .ok (.iload_n 2, 1) := by decide +kernel
theorem dX9_see_68 : decode cX9_see 68 = .ok (.iastore, 1) := by decide +kernel
theorem dX9_see_69 : decode cX9_see 69 = .ok (.aload_n 0, 1) := by decide +kernel
theorem dX9_see_70 : decode cX9_see 70 = .ok (.getfield 7, 3) := by decide +kernel
theorem dX9_see_73 : decode cX9_see 73 = .ok (.iload 4, 2) := by decide +kernel
theorem dX9_see_75 : decode cX9_see 75 = .ok (.iconst 2, 1) := by decide +kernel
theorem dX9_see_76 : decode cX9_see 76 = .ok (.iadd, 1) := by decide +kernel
theorem dX9_see_77 : decode cX9_see 77 = .ok (.iload_n 3, 1) := by decide +kernel
theorem dX9_see_78 : decode cX9_see 78 = .ok (.invokestatic 173, 3) := by decide +kernel
theorem dX9_see_81 : decode cX9_see 81 = .ok (.iastore, 1) := by decide +kernel
theorem dX9_see_82 : decode cX9_see 82 = .ok (.aload_n 0, 1) := by decide +kernel
theorem dX9_see_83 : decode cX9_see 83 = .ok (.getfield 7, 3) := by decide +kernel
theorem dX9_see_86 : decode cX9_see 86 = .ok (.bipush 71, 2) := by decide +kernel
theorem dX9_see_88 : decode cX9_see 88 = .ok (.dup2, 1) := by decide +kernel
theorem dX9_see_89 : decode cX9_see 89 = .ok (.iaload, 1) := by decide +kernel
theorem dX9_see_90 : decode cX9_see 90 = .ok (.iconst 1, 1) := by decide +kernel
theorem dX9_see_91 : decode cX9_see 91 = .ok (.iadd, 1) := by decide +kernel
theorem dX9_see_92 : decode cX9_see 92 = .ok (.iastore, 1) := by decide +kernel
theorem dX9_see_93 : decode cX9_see 93 = .ok (.aload_n 0, 1) := by decide +kernel
theorem dX9_see_94 : decode cX9_see 94 = .ok (.getfield 7, 3) := by decide +kernel
theorem dX9_see_97 : decode cX9_see 97 = .ok (.bipush 71, 2) := by decide +kernel
theorem dX9_see_99 : decode cX9_see 99 = .ok (.iaload, 1) := by decide +kernel
theorem dX9_see_100 : decode cX9_see 100 = .ok (.ireturn, 1) := by decide +kernel
theorem dX9_forget_0 : decode cX9_forget 0 = .ok (.iload_n 1, 1) := by decide +kernel
theorem dX9_forget_1 : decode cX9_forget 1 = .ok (.i2l, 1) := by decide +kernel
theorem dX9_forget_2 : decode cX9_forget 2 = .ok (.lconst 0, 1) := by decide +kernel
theorem dX9_forget_3 : decode cX9_forget 3 = .ok (.aload_n 0, 1) := by decide +kernel
theorem dX9_forget_4 : decode cX9_forget 4 = .ok (.getfield 7, 3) := by decide +kernel
theorem dX9_forget_7 : decode cX9_forget 7 = .ok (.bipush 71, 2) := by decide +kernel
theorem dX9_forget_9 : decode cX9_forget 9 = .ok (.iaload, 1) := by decide +kernel
theorem dX9_forget_10 : decode cX9_forget 10 = .ok (.i2l, 1) := by decide +kernel
theorem dX9_forget_11 : decode cX9_forget 11 = .ok (.invokestatic 71, 3) := by decide +kernel
theorem dX9_forget_14 : decode cX9_forget 14 = .ok (.ifCond .ne 5, 3) := by decide +kernel
theorem dX9_forget_17 : decode cX9_forget 17 = .ok (.iconst (-1), 1) := by decide +kernel
theorem dX9_forget_18 : decode cX9_forget 18 = .ok (.ireturn, 1) := by decide +kernel
theorem dX9_forget_19 : decode cX9_forget 19 = .ok (.aload_n 0, 1) := by decide +kernel
theorem dX9_forget_20 : decode cX9_forget 20 = .ok (.getfield 7, 3) := by decide +kernel
theorem dX9_forget_23 : decode cX9_forget 23 = .ok (.bipush 71, 2) := by decide +kernel
theorem dX9_forget_25 : decode cX9_forget 25 = .ok (.iaload, 1) := by decide +kernel
theorem dX9_forget_26 : decode cX9_forget 26 = .ok (.istore_n 2, 1) := by decide +kernel
theorem dX9_forget_27 : decode cX9_forget 27 = .ok (.aload_n 0, 1) := by decide +kernel
theorem dX9_forget_28 : decode cX9_forget 28 = .ok (.getfield 7, 3) := by decide +kernel
theorem dX9_forget_31 : decode cX9_forget 31 = .ok (.bipush 71, 2) := by decide +kernel
theorem dX9_forget_33 : decode cX9_forget 33 = .ok (.iload_n 1, 1) := by decide +kernel
theorem dX9_forget_34 : decode cX9_forget 34 = .ok (.iastore, 1) := by decide +kernel
theorem dX9_forget_35 : decode cX9_forget 35 = .ok (.iload_n 2, 1) := by decide +kernel
theorem dX9_forget_36 : decode cX9_forget 36 = .ok (.ireturn, 1) := by decide +kernel
theorem dX9_isFit_0 : decode cX9_isFit 0 = .ok (.iconst 1, 1) := by decide +kernel
theorem dX9_isFit_1 : decode cX9_isFit 1 = .ok (.istore_n 2, 1) := by decide +kernel
theorem dX9_isFit_2 : decode cX9_isFit 2 = .ok (.iconst 0, 1) := by decide +kernel
theorem dX9_isFit_3 : decode cX9_isFit 3 = .ok (.istore_n 3, 1) := by decide +kernel
theorem dX9_isFit_4 : decode cX9_isFit 4 = .ok (.iload_n 3, 1) := by decide +kernel
theorem dX9_isFit_5 : decode cX9_isFit 5 = .ok (.aload_n 0, 1) := by decide +kernel
theorem dX9_isFit_6 : decode cX9_isFit 6 = .ok (.getfield 7, 3) := by decide +kernel
theorem dX9_isFit_9 : decode cX9_isFit 9 = .ok (.bipush 71, 2) := by decide +kernel
theorem dX9_isFit_11 : decode cX9_isFit 11 = .ok (.iaload, 1) := by decide +kernel
theorem dX9_isFit_12 : decode cX9_isFit 12 = .ok (.if_icmp .ge 68, 3) := by decide +kernel
theorem dX9_isFit_15 : decode cX9_isFit 15 = .ok (.bipush 72, 2) := by decide +kernel
theorem dX9_isFit_17 : decode cX9_isFit 17 = .ok (.iconst 3, 1) := by decide +kernel
theorem dX9_isFit_18 : decode cX9_isFit 18 = .ok (.iload_n 3, 1) := by decide +kernel
theorem dX9_isFit_19 : decode cX9_isFit 19 = .ok (.imul, 1) := by decide +kernel
theorem dX9_isFit_20 : decode cX9_isFit 20 = .ok (.iadd, 1) := by decide +kernel
theorem dX9_isFit_21 : decode cX9_isFit 21 = .ok (.istore 4, 2) := by decide +kernel
theorem dX9_isFit_23 : decode cX9_isFit 23 = .ok (.iload_n 2, 1) := by decide +kernel
theorem dX9_isFit_24 : decode cX9_isFit 24 = .ok (.ifCond .eq 48, 3) := by decide +kernel
theorem dX9_isFit_27 : decode cX9_isFit 27 = .ok (.aload_n 0, 1) := by decide +kernel
theorem dX9_isFit_28 : decode cX9_isFit 28 = .ok (.getfield 7, 3) := by decide +kernel
theorem dX9_isFit_31 : decode cX9_isFit 31 = .ok (.iload 4, 2) := by decide +kernel
theorem dX9_isFit_33 : decode cX9_isFit 33 = .ok (.iaload, 1) := by decide +kernel
theorem dX9_isFit_34 : decode cX9_isFit 34 = .ok (.iload_n 1, 1) := by decide +kernel
theorem dX9_isFit_35 : decode cX9_isFit 35 = .ok (.if_icmp .ne 33, 3) := by decide +kernel
theorem dX9_isFit_38 : decode cX9_isFit 38 = .ok (.aload_n 0, 1) := by decide +kernel
theorem dX9_isFit_39 : decode cX9_isFit 39 = .ok (.iload_n 1, 1) := by decide +kernel
theorem dX9_isFit_40 : decode cX9_isFit 40 = .ok (.aload_n 0, 1) := by decide +kernel
theorem dX9_isFit_41 : decode cX9_isFit 41 = .ok (.getfield 7, 3) := by decide +kernel
theorem dX9_isFit_44 : decode cX9_isFit 44 = .ok (.iload 4, 2) := by decide +kernel
theorem dX9_isFit_46 : decode cX9_isFit 46 = .ok (.iconst 1, 1) := by decide +kernel
theorem dX9_isFit_47 : decode cX9_isFit 47 = .ok (.iadd, 1) := by decide +kernel
theorem dX9_isFit_48 : decode cX9_isFit 48 = .ok (.iaload, 1) := by decide +kernel
theorem dX9_isFit_49 : decode cX9_isFit 49 = .ok (.i2l, 1) := by decide +kernel
theorem dX9_isFit_50 : decode cX9_isFit 50 = .ok (.invokevirtual 169, 3) := by decide +kernel
theorem dX9_isFit_53 : decode cX9_isFit 53 = .ok (.invokestatic 173, 3) := by decide +kernel
theorem dX9_isFit_56 : decode cX9_isFit 56 = .ok (.aload_n 0, 1) := by decide +kernel
theorem dX9_isFit_57 : decode cX9_isFit 57 = .ok (.getfield 7, 3) := by decide +kernel
theorem dX9_isFit_60 : decode cX9_isFit 60 = .ok (.iload 4, 2) := by decide +kernel
theorem dX9_isFit_62 : decode cX9_isFit 62 = .ok (.iconst 2, 1) := by decide +kernel
theorem dX9_isFit_63 : decode cX9_isFit 63 = .ok (.iadd, 1) := by decide +kernel
theorem dX9_isFit_64 : decode cX9_isFit 64 = .ok (.iaload, 1) := by decide +kernel
theorem dX9_isFit_65 : decode cX9_isFit 65 = .ok (.if_icmp .ne 7, 3) := by decide +kernel
theorem dX9_isFit_68 : decode cX9_isFit 68 = .ok (.iconst 1, 1) := by decide +kernel
theorem dX9_isFit_69 : decode cX9_isFit 69 = .ok (.goto 4, 3) := by decide +kernel
theorem dX9_isFit_72 : decode cX9_isFit 72 = .ok (.iconst 0, 1) := by decide +kernel
theorem dX9_isFit_73 : decode cX9_isFit 73 = .ok (.istore_n 2, 1) := by decide +kernel
theorem dX9_isFit_74 : decode cX9_isFit 74 = .ok (.iinc 3 1, 3) := by decide +kernel
theorem dX9_isFit_77 : decode cX9_isFit 77 = .ok (.goto (-73), 3) := by decide +kernel
theorem dX9_isFit_80 : decode cX9_isFit 80 = .ok (.iload_n 2, 1) := by decide +kernel
theorem dX9_isFit_81 : decode cX9_isFit 81 = .ok (.ireturn, 1) := by decide +kernel
theorem dX9_error_0 : decode cX9_error 0 = .ok (.aload_n 0, 1) := by decide +kernel
theorem dX9_error_1 : decode cX9_error 1 = .ok (.iload_n 1, 1) := by decide +kernel
theorem dX9_error_2 : decode cX9_error 2 = .ok (.invokevirtual 146, 3) := by decide +kernel
theorem dX9_error_5 : decode cX9_error 5 = .ok (.ifCond .ne 5, 3) := by decide +kernel
theorem dX9_error_8 : decode cX9_error 8 = .ok (.iconst (-1), 1) := by decide +kernel
theorem dX9_error_9 : decode cX9_error 9 = .ok (.ireturn, 1) := by decide +kernel
theorem dX9_error_10 : decode cX9_error 10 = .ok (.aload_n 0, 1) := by decide +kernel
theorem dX9_error_11 : decode cX9_error 11 = .ok (.iload_n 1, 1) := by decide +kernel
theorem dX9_error_12 : decode cX9_error 12 = .ok (.invokevirtual 307, 3) := by decide +kernel
theorem dX9_error_15 : decode cX9_error 15 = .ok (.istore_n 2, 1) := by decide +kernel
theorem dX9_error_16 : decode cX9_error 16 = .ok (.aload_n 0, 1) := by decide +kernel
theorem dX9_error_17 : decode cX9_error 17 = .ok (.iload_n 1, 1) := by decide +kernel
theorem dX9_error_18 : decode cX9_error 18 = .ok (.iconst 2, 1) := by decide +kernel
theorem dX9_error_19 : decode cX9_error 19 = .ok (.invokevirtual 143, 3) := by decide +kernel
theorem dX9_error_22 : decode cX9_error 22 = .ok (.istore_n 3, 1) := by decide +kernel
theorem dX9_error_23 : decode cX9_error 23 = .ok (.aload_n 0, 1) := by decide +kernel
theorem dX9_error_24 : decode cX9_error 24 = .ok (.getfield 7, 3) := by decide +kernel
theorem dX9_error_27 : decode cX9_error 27 = .ok (.iconst 1, 1) := by decide +kernel
theorem dX9_error_28 : decode cX9_error 28 = .ok (.bipush 6, 2) := by decide +kernel
theorem dX9_error_30 : decode cX9_error 30 = .ok (.iload_n 1, 1) := by decide +kernel
theorem dX9_error_31 : decode cX9_error 31 = .ok (.imul, 1) := by decide +kernel
theorem dX9_error_32 : decode cX9_error 32 = .ok (.iadd, 1) := by decide +kernel
theorem dX9_error_33 : decode cX9_error 33 = .ok (.iconst 2, 1) := by decide +kernel
theorem dX9_error_34 : decode cX9_error 34 = .ok (.iadd, 1) := by decide +kernel
theorem dX9_error_35 : decode cX9_error 35 = .ok (.iload_n 3, 1) := by decide +kernel
theorem dX9_error_36 : decode cX9_error 36 = .ok (.iconst 1, 1) := by decide +kernel
theorem dX9_error_37 : decode cX9_error 37 = .ok (.iadd, 1) := by decide +kernel
theorem dX9_error_38 : decode cX9_error 38 = .ok (.aload_n 0, 1) := by decide +kernel
theorem dX9_error_39 : decode cX9_error 39 = .ok (.iload_n 1, 1) := by decide +kernel
theorem dX9_error_40 : decode cX9_error 40 = .ok (.iconst 1, 1) := by decide +kernel
theorem dX9_error_41 : decode cX9_error 41 = .ok (.invokevirtual 143, 3) := by decide +kernel
theorem dX9_error_44 : decode cX9_error 44 = .ok (.irem, 1) := by decide +kernel
theorem dX9_error_45 : decode cX9_error 45 = .ok (.iastore, 1) := by decide +kernel
theorem dX9_error_46 : decode cX9_error 46 = .ok (.aload_n 0, 1) := by decide +kernel
theorem dX9_error_47 : decode cX9_error 47 = .ok (.iload_n 1, 1) := by decide +kernel
theorem dX9_error_48 : decode cX9_error 48 = .ok (.invokevirtual 307, 3) := by decide +kernel
theorem dX9_error_51 : decode cX9_error 51 = .ok (.istore 4, 2) := by decide +kernel
theorem dX9_error_53 : decode cX9_error 53 = .ok (.aload_n 0, 1) := by decide +kernel
theorem dX9_error_54 : decode cX9_error 54 = .ok (.getfield 7, 3) := by decide +kernel
theorem dX9_error_57 : decode cX9_error 57 = .ok (.iconst 1, 1) := by decide +kernel
theorem dX9_error_58 : decode cX9_error 58 = .ok (.bipush 6, 2) := by decide +kernel
theorem dX9_error_60 : decode cX9_error 60 = .ok (.iload_n 1, 1) := by decide +kernel
theorem dX9_error_61 : decode cX9_error 61 = .ok (.imul, 1) := by decide +kernel
theorem dX9_error_62 : decode cX9_error 62 = .ok (.iadd, 1) := by decide +kernel
theorem dX9_error_63 : decode cX9_error 63 = .ok (.iconst 2, 1) := by decide +kernel
theorem dX9_error_64 : decode cX9_error 64 = .ok (.iadd, 1) := by decide +kernel
theorem dX9_error_65 : decode cX9_error 65 = .ok (.iload_n 3, 1) := by decide +kernel
theorem dX9_error_66 : decode cX9_error 66 = .ok (.iastore, 1) := by decide +kernel
theorem dX9_error_67 : decode cX9_error 67 = .ok (.iload_n 2, 1) := by decide +kernel
theorem dX9_error_68 : decode cX9_error 68 = .ok (.ifCond .eq 16, 3) := by decide +kernel
theorem dX9_error_71 : decode cX9_error 71 = .ok (.iload 4, 2) := by decide +kernel
theorem dX9_error_73 : decode cX9_error 73 = .ok (.ifCond .eq 7, 3) := by decide +kernel
theorem dX9_error_76 : decode cX9_error 76 = .ok (.iconst 2, 1) := by decide +kernel
theorem dX9_error_77 : decode cX9_error 77 = .ok (.goto 17, 3) := by decide +kernel
theorem dX9_error_80 : decode cX9_error 80 = .ok (.iconst 0, 1) := by decide +kernel
theorem dX9_error_81 : decode cX9_error 81 = .ok (.goto 13, 3) := by decide +kernel
theorem dX9_error_84 : decode cX9_error 84 = .ok (.iload 4, 2) := by decide +kernel
theorem dX9_error_86 : decode cX9_error 86 = .ok (.ifCond .eq 7, 3) := by decide +kernel
theorem dX9_error_89 : decode cX9_error 89 = .ok (.iconst 1, 1) := by decide +kernel
theorem dX9_error_90 : decode cX9_error 90 = .ok (.goto 4, 3) := by decide +kernel
theorem dX9_error_93 : decode cX9_error 93 = .ok (.iconst 3, 1) := by decide +kernel
theorem dX9_error_94 : decode cX9_error 94 = .ok (.ireturn, 1) := by decide +kernel
theorem dX9_isPlainFit_0 : decode cX9_isPlainFit 0 = .ok (.iconst 1, 1) := by decide +kernel
theorem dX9_isPlainFit_1 : decode cX9_isPlainFit 1 = .ok (.istore 4, 2) := by decide +kernel
theorem dX9_isPlainFit_3 : decode cX9_isPlainFit 3 = .ok (.iconst 0, 1) := by decide +kernel
theorem dX9_isPlainFit_4 : decode cX9_isPlainFit 4 = .ok (.istore 5, 2) := by decide +kernel
theorem dX9_isPlainFit_6 : decode cX9_isPlainFit 6 = .ok (.iload 5, 2) := by decide +kernel
theorem dX9_isPlainFit_8 : decode cX9_isPlainFit 8 = .ok (.aload_n 0, 1) := by decide +kernel
theorem dX9_isPlainFit_9 : decode cX9_isPlainFit 9 = .ok (.getfield 7, 3) := by decide +kernel
theorem dX9_isPlainFit_12 : decode cX9_isPlainFit 12 = .ok (.bipush 71, 2) := by decide +kernel
theorem dX9_isPlainFit_14 : decode cX9_isPlainFit 14 = .ok (.iaload, 1) := by decide +kernel
theorem dX9_isPlainFit_15 : decode cX9_isPlainFit 15 = .ok (.if_icmp .ge 76, 3) := by decide +kernel
theorem dX9_isPlainFit_18 : decode cX9_isPlainFit 18 = .ok (.bipush 72, 2) := by decide +kernel
theorem dX9_isPlainFit_20 : decode cX9_isPlainFit 20 = .ok (.iconst 3, 1) := by decide +kernel
theorem dX9_isPlainFit_21 : decode cX9_isPlainFit 21 = .ok (.iload 5, 2) := by decide +kernel
theorem dX9_isPlainFit_23 : decode cX9_isPlainFit 23 = .ok (.imul, 1) := by decide +kernel
theorem dX9_isPlainFit_24 : decode cX9_isPlainFit 24 = .ok (.iadd, 1) := by decide +kernel
theorem dX9_isPlainFit_25 : decode cX9_isPlainFit 25 = .ok (.istore 6, 2) := by decide +kernel
theorem dX9_isPlainFit_27 : decode cX9_isPlainFit 27 = .ok (.iload 4, 2) := by decide +kernel
theorem dX9_isPlainFit_29 : decode cX9_isPlainFit 29 = .ok (.ifCond .eq 53, 3) := by decide +kernel
theorem dX9_isPlainFit_32 : decode cX9_isPlainFit 32 = .ok (.aload_n 0, 1) := by decide +kernel
theorem dX9_isPlainFit_33 : decode cX9_isPlainFit 33 = .ok (.getfield 7, 3) := by decide +kernel
theorem dX9_isPlainFit_36 : decode cX9_isPlainFit 36 = .ok (.iload 6, 2) := by decide +kernel
theorem dX9_isPlainFit_38 : decode cX9_isPlainFit 38 = .ok (.iaload, 1) := by decide +kernel
theorem dX9_isPlainFit_39 : decode cX9_isPlainFit 39 = .ok (.iload_n 1, 1) := by decide +kernel
theorem dX9_isPlainFit_40 : decode cX9_isPlainFit 40 = .ok (.if_icmp .ne 38, 3) := by decide +kernel
theorem dX9_isPlainFit_43 : decode cX9_isPlainFit 43 = .ok (.aload_n 0, 1) := by decide +kernel
theorem dX9_isPlainFit_44 : decode cX9_isPlainFit 44 = .ok (.getfield 7, 3) := by decide +kernel
theorem dX9_isPlainFit_47 : decode cX9_isPlainFit 47 = .ok (.iload 6, 2) := by decide +kernel
theorem dX9_isPlainFit_49 : decode cX9_isPlainFit 49 = .ok (.iconst 1, 1) := by decide +kernel
theorem dX9_isPlainFit_50 : decode cX9_isPlainFit 50 = .ok (.iadd, 1) := by decide +kernel
theorem dX9_isPlainFit_51 : decode cX9_isPlainFit 51 = .ok (.iaload, 1) := by decide +kernel
theorem dX9_isPlainFit_52 : decode cX9_isPlainFit 52 = .ok (.iload_n 2, 1) := by decide +kernel
theorem dX9_isPlainFit_53 : decode cX9_isPlainFit 53 = .ok (.irem, 1) := by decide +kernel
theorem dX9_isPlainFit_54 : decode cX9_isPlainFit 54 = .ok (.iload_n 3, 1) := by decide +kernel
theorem dX9_isPlainFit_55 : decode cX9_isPlainFit 55 = .ok (.if_icmp .ne 7, 3) := by decide +kernel
theorem dX9_isPlainFit_58 : decode cX9_isPlainFit 58 = .ok (.iconst 1, 1) := by decide +kernel
theorem dX9_isPlainFit_59 : decode cX9_isPlainFit 59 = .ok (.goto 4, 3) := by decide +kernel
theorem dX9_isPlainFit_62 : decode cX9_isPlainFit 62 = .ok (.iconst 0, 1) := by decide +kernel
theorem dX9_isPlainFit_63 : decode cX9_isPlainFit 63 = .ok (.invokestatic 173, 3) := by decide +kernel
theorem dX9_isPlainFit_66 : decode cX9_isPlainFit 66 = .ok (.aload_n 0, 1) := by decide +kernel
theorem dX9_isPlainFit_67 : decode cX9_isPlainFit 67 = .ok (.getfield 7, 3) := by decide +kernel
theorem dX9_isPlainFit_70 : decode cX9_isPlainFit 70 = .ok (.iload 6, 2) := by decide +kernel
theorem dX9_isPlainFit_72 : decode cX9_isPlainFit 72 = .ok (.iconst 2, 1) := by decide +kernel
theorem dX9_isPlainFit_73 : decode cX9_isPlainFit 73 = .ok (.iadd, 1) := by decide +kernel
theorem dX9_isPlainFit_74 : decode cX9_isPlainFit 74 = .ok (.iaload, 1) := by decide +kernel
theorem dX9_isPlainFit_75 : decode cX9_isPlainFit 75 = .ok (.if_icmp .ne 7, 3) := by decide +kernel
theorem dX9_isPlainFit_78 : decode cX9_isPlainFit 78 = .ok (.iconst 1, 1) := by decide +kernel
theorem dX9_isPlainFit_79 : decode cX9_isPlainFit 79 = .ok (.goto 4, 3) := by decide +kernel
theorem dX9_isPlainFit_82 : decode cX9_isPlainFit 82 = .ok (.iconst 0, 1) := by decide +kernel
theorem dX9_isPlainFit_83 : decode cX9_isPlainFit 83 = .ok (.istore 4, 2) := by decide +kernel
theorem dX9_isPlainFit_85 : decode cX9_isPlainFit 85 = .ok (.iinc 5 1, 3) := by decide +kernel
theorem dX9_isPlainFit_88 : decode cX9_isPlainFit 88 = .ok (.goto (-82), 3) := by decide +kernel
theorem dX9_isPlainFit_91 : decode cX9_isPlainFit 91 = .ok (.iload 4, 2) := by decide +kernel
theorem dX9_isPlainFit_93 : decode cX9_isPlainFit 93 = .ok (.ireturn, 1) := by decide +kernel
theorem dX9_wheels_0 : decode cX9_wheels 0 = .ok (.aload_n 0, 1) := by decide +kernel
theorem dX9_wheels_1 : decode cX9_wheels 1 = .ok (.iload_n 1, 1) := by decide +kernel
theorem dX9_wheels_2 : decode cX9_wheels 2 = .ok (.invokevirtual 146, 3) := by decide +kernel
theorem dX9_wheels_5 : decode cX9_wheels 5 = .ok (.ifCond .eq 15, 3) := by decide +kernel
theorem dX9_wheels_8 : decode cX9_wheels 8 = .ok (.iload_n 2, 1) := by decide +kernel
theorem dX9_wheels_9 : decode cX9_wheels 9 = .ok (.i2l, 1) := by decide +kernel
theorem dX9_wheels_10 : decode cX9_wheels 10 = .ok (.lconst 0, 1) := by decide +kernel
theorem dX9_wheels_11 : decode cX9_wheels 11 = .ok (.ldc2_w 278, 3) := by decide +kernel
theorem dX9_wheels_14 : decode cX9_wheels 14 = .ok (.invokestatic 71, 3) := by decide +kernel
theorem dX9_wheels_17 : decode cX9_wheels 17 = .ok (.ifCond .ne 5, 3) := by decide +kernel
theorem dX9_wheels_20 : decode cX9_wheels 20 = .ok (.iconst (-1), 1) := by decide +kernel
theorem dX9_wheels_21 : decode cX9_wheels 21 = .ok (.ireturn, 1) := by decide +kernel
theorem dX9_wheels_22 : decode cX9_wheels 22 = .ok (.iconst 0, 1) := by decide +kernel
theorem dX9_wheels_23 : decode cX9_wheels 23 = .ok (.istore_n 3, 1) := by decide +kernel
theorem dX9_wheels_24 : decode cX9_wheels 24 = .ok (.bipush (-4), 2) := by decide +kernel
theorem dX9_wheels_26 : decode cX9_wheels 26 = .ok (.istore 4, 2) := by decide +kernel
theorem dX9_wheels_28 : decode cX9_wheels 28 = .ok (.bipush (-4), 2) := by decide +kernel
theorem dX9_wheels_30 : decode cX9_wheels 30 = .ok (.istore 5, 2) := by decide +kernel
theorem dX9_wheels_32 : decode cX9_wheels 32 = .ok (.iconst 2, 1) := by decide +kernel
theorem dX9_wheels_33 : decode cX9_wheels 33 = .ok (.istore 6, 2) := by decide +kernel
theorem dX9_wheels_35 : decode cX9_wheels 35 = .ok (.iload 6, 2) := by decide +kernel
theorem dX9_wheels_37 : decode cX9_wheels 37 = .ok (.bipush 60, 2) := by decide +kernel
theorem dX9_wheels_39 : decode cX9_wheels 39 = .ok (.if_icmp .gt 66, 3) := by decide +kernel
theorem dX9_wheels_42 : decode cX9_wheels 42 = .ok (.iconst 0, 1) := by decide +kernel
theorem dX9_wheels_43 : decode cX9_wheels 43 = .ok (.istore 7, 2) := by decide +kernel
theorem dX9_wheels_45 : decode cX9_wheels 45 = .ok (.iload 7, 2) := by decide +kernel
theorem dX9_wheels_47 : decode cX9_wheels 47 = .ok (.iload 6, 2) := by decide +kernel
theorem dX9_wheels_49 : decode cX9_wheels 49 = .ok (.if_icmp .ge 50, 3) := by decide +kernel
theorem dX9_wheels_52 : decode cX9_wheels 52 = .ok (.aload_n 0, 1) := by decide +kernel
theorem dX9_wheels_53 : decode cX9_wheels 53 = .ok (.iload_n 1, 1) := by decide +kernel
theorem dX9_wheels_54 : decode cX9_wheels 54 = .ok (.iload 6, 2) := by decide +kernel
theorem dX9_wheels_56 : decode cX9_wheels 56 = .ok (.iload 7, 2) := by decide +kernel
theorem dX9_wheels_58 : decode cX9_wheels 58 = .ok (.invokevirtual 310, 3) := by decide +kernel
theorem dX9_wheels_61 : decode cX9_wheels 61 = .ok (.ifCond .eq 32, 3) := by decide +kernel
theorem dX9_wheels_64 : decode cX9_wheels 64 = .ok (.iload_n 3, 1) := by decide +kernel
theorem dX9_wheels_65 : decode cX9_wheels 65 = .ok (.ifCond .ne 8, 3) := by decide +kernel
theorem dX9_wheels_68 : decode cX9_wheels 68 = .ok (.iload 6, 2) := by decide +kernel
theorem dX9_wheels_70 : decode cX9_wheels 70 = .ok (.goto 5, 3) := by decide +kernel
theorem dX9_wheels_73 : decode cX9_wheels 73 = .ok (.iload 4, 2) := by decide +kernel
theorem dX9_wheels_75 : decode cX9_wheels 75 = .ok (.istore 4, 2) := by decide +kernel
theorem dX9_wheels_77 : decode cX9_wheels 77 = .ok (.iload_n 3, 1) := by decide +kernel
theorem dX9_wheels_78 : decode cX9_wheels 78 = .ok (.ifCond .ne 8, 3) := by decide +kernel
theorem dX9_wheels_81 : decode cX9_wheels 81 = .ok (.iload 7, 2) := by decide +kernel
theorem dX9_wheels_83 : decode cX9_wheels 83 = .ok (.goto 5, 3) := by decide +kernel
theorem dX9_wheels_86 : decode cX9_wheels 86 = .ok (.iload 5, 2) := by decide +kernel
theorem dX9_wheels_88 : decode cX9_wheels 88 = .ok (.istore 5, 2) := by decide +kernel
theorem dX9_wheels_90 : decode cX9_wheels 90 = .ok (.iinc 3 1, 3) := by decide +kernel
theorem dX9_wheels_93 : decode cX9_wheels 93 = .ok (.iinc 7 1, 3) := by decide +kernel
theorem dX9_wheels_96 : decode cX9_wheels 96 = .ok (.goto (-51), 3) := by decide +kernel
theorem dX9_wheels_99 : decode cX9_wheels 99 = .ok (.iinc 6 1, 3) := by decide +kernel
theorem dX9_wheels_102 : decode cX9_wheels 102 = .ok (.goto (-67), 3) := by decide +kernel
theorem dX9_wheels_105 : decode cX9_wheels 105 = .ok (.iload_n 2, 1) := by decide +kernel
theorem dX9_wheels_106 : decode cX9_wheels 106 = .ok (.ifCond .ne 7, 3) := by decide +kernel
theorem dX9_wheels_109 : decode cX9_wheels 109 = .ok (.iload_n 3, 1) := by decide +kernel
theorem dX9_wheels_110 : decode cX9_wheels 110 = .ok (.goto 15, 3) := by decide +kernel
theorem dX9_wheels_113 : decode cX9_wheels 113 = .ok (.iload_n 2, 1) := by decide +kernel
theorem dX9_wheels_114 : decode cX9_wheels 114 = .ok (.iconst 1, 1) := by decide +kernel
theorem dX9_wheels_115 : decode cX9_wheels 115 = .ok (.if_icmp .ne 8, 3) := by decide +kernel
theorem dX9_wheels_118 : decode cX9_wheels 118 = .ok (.iload 4, 2) := by decide +kernel
theorem dX9_wheels_120 : decode cX9_wheels 120 = .ok (.goto 5, 3) := by decide +kernel
theorem dX9_wheels_123 : decode cX9_wheels 123 = .ok (.iload 5, 2) := by decide +kernel
theorem dX9_wheels_125 : decode cX9_wheels 125 = .ok (.ireturn, 1) := by decide +kernel
theorem dX9_worn_0 : decode cX9_worn 0 = .ok (.aload_n 0, 1) := by decide +kernel
theorem dX9_worn_1 : decode cX9_worn 1 = .ok (.iload_n 1, 1) := by decide +kernel
theorem dX9_worn_2 : decode cX9_worn 2 = .ok (.invokevirtual 146, 3) := by decide +kernel
theorem dX9_worn_5 : decode cX9_worn 5 = .ok (.ifCond .ne 5, 3) := by decide +kernel
theorem dX9_worn_8 : decode cX9_worn 8 = .ok (.iconst (-1), 1) := by decide +kernel
theorem dX9_worn_9 : decode cX9_worn 9 = .ok (.ireturn, 1) := by decide +kernel
theorem dX9_worn_10 : decode cX9_worn 10 = .ok (.aload_n 0, 1) := by decide +kernel
theorem dX9_worn_11 : decode cX9_worn 11 = .ok (.iload_n 1, 1) := by decide +kernel
theorem dX9_worn_12 : decode cX9_worn 12 = .ok (.iconst 0, 1) := by decide +kernel
theorem dX9_worn_13 : decode cX9_worn 13 = .ok (.invokevirtual 143, 3) := by decide +kernel
theorem dX9_worn_16 : decode cX9_worn 16 = .ok (.istore_n 2, 1) := by decide +kernel
theorem dX9_worn_17 : decode cX9_worn 17 = .ok (.aload_n 0, 1) := by decide +kernel
theorem dX9_worn_18 : decode cX9_worn 18 = .ok (.iload_n 1, 1) := by decide +kernel
theorem dX9_worn_19 : decode cX9_worn 19 = .ok (.iconst 4, 1) := by decide +kernel
theorem dX9_worn_20 : decode cX9_worn 20 = .ok (.invokevirtual 143, 3) := by decide +kernel
theorem dX9_worn_23 : decode cX9_worn 23 = .ok (.istore_n 3, 1) := by decide +kernel
theorem dX9_worn_24 : decode cX9_worn 24 = .ok (.iconst 0, 1) := by decide +kernel
theorem dX9_worn_25 : decode cX9_worn 25 = .ok (.istore 4, 2) := by decide +kernel
theorem dX9_worn_27 : decode cX9_worn 27 = .ok (.iconst 0, 1) := by decide +kernel
theorem dX9_worn_28 : decode cX9_worn 28 = .ok (.istore 5, 2) := by decide +kernel
theorem dX9_worn_30 : decode cX9_worn 30 = .ok (.iload 5, 2) := by decide +kernel
theorem dX9_worn_32 : decode cX9_worn 32 = .ok (.iconst 4, 1) := by decide +kernel
theorem dX9_worn_33 : decode cX9_worn 33 = .ok (.if_icmp .ge 82, 3) := by decide +kernel
theorem dX9_worn_36 : decode cX9_worn 36 = .ok (.aload_n 0, 1) := by decide +kernel
theorem dX9_worn_37 : decode cX9_worn 37 = .ok (.getfield 7, 3) := by decide +kernel
theorem dX9_worn_40 : decode cX9_worn 40 = .ok (.iconst 1, 1) := by decide +kernel
theorem dX9_worn_41 : decode cX9_worn 41 = .ok (.bipush 6, 2) := by decide +kernel
theorem dX9_worn_43 : decode cX9_worn 43 = .ok (.iload_n 1, 1) := by decide +kernel
theorem dX9_worn_44 : decode cX9_worn 44 = .ok (.imul, 1) := by decide +kernel
theorem dX9_worn_45 : decode cX9_worn 45 = .ok (.iadd, 1) := by decide +kernel
theorem dX9_worn_46 : decode cX9_worn 46 = .ok (.iconst 0, 1) := by decide +kernel
theorem dX9_worn_47 : decode cX9_worn 47 = .ok (.iadd, 1) := by decide +kernel
theorem dX9_worn_48 : decode cX9_worn 48 = .ok (.iload_n 2, 1) := by decide +kernel
theorem dX9_worn_49 : decode cX9_worn 49 = .ok (.iconst 2, 1) := by decide +kernel
theorem dX9_worn_50 : decode cX9_worn 50 = .ok (.idiv, 1) := by decide +kernel
theorem dX9_worn_51 : decode cX9_worn 51 = .ok (.iconst 2, 1) := by decide +kernel
theorem dX9_worn_52 : decode cX9_worn 52 = .ok (.imul, 1) := by decide +kernel
theorem dX9_worn_53 : decode cX9_worn 53 = .ok (.iload 5, 2) := by decide +kernel
theorem dX9_worn_55 : decode cX9_worn 55 = .ok (.ifCond .le 7, 3) := by decide +kernel
theorem dX9_worn_58 : decode cX9_worn 58 = .ok (.iconst 1, 1) := by decide +kernel
theorem dX9_worn_59 : decode cX9_worn 59 = .ok (.goto 4, 3) := by decide +kernel
theorem dX9_worn_62 : decode cX9_worn 62 = .ok (.iconst 0, 1) := by decide +kernel
theorem dX9_worn_63 : decode cX9_worn 63 = .ok (.invokestatic 173, 3) := by decide +kernel
theorem dX9_worn_66 : decode cX9_worn 66 = .ok (.iadd, 1) := by decide +kernel
theorem dX9_worn_67 : decode cX9_worn 67 = .ok (.iastore, 1) := by decide +kernel
theorem dX9_worn_68 : decode cX9_worn 68 = .ok (.aload_n 0, 1) := by decide +kernel
theorem dX9_worn_69 : decode cX9_worn 69 = .ok (.getfield 7, 3) := by decide +kernel
theorem dX9_worn_72 : decode cX9_worn 72 = .ok (.iconst 1, 1) := by decide +kernel
theorem dX9_worn_73 : decode cX9_worn 73 = .ok (.bipush 6, 2) := by decide +kernel
theorem dX9_worn_75 : decode cX9_worn 75 = .ok (.iload_n 1, 1) := by decide +kernel
theorem dX9_worn_76 : decode cX9_worn 76 = .ok (.imul, 1) := by decide +kernel
theorem dX9_worn_77 : decode cX9_worn 77 = .ok (.iadd, 1) := by decide +kernel
theorem dX9_worn_78 : decode cX9_worn 78 = .ok (.iconst 4, 1) := by decide +kernel
theorem dX9_worn_79 : decode cX9_worn 79 = .ok (.iadd, 1) := by decide +kernel
theorem dX9_worn_80 : decode cX9_worn 80 = .ok (.iload 5, 2) := by decide +kernel
theorem dX9_worn_82 : decode cX9_worn 82 = .ok (.ifCond .le 8, 3) := by decide +kernel
theorem dX9_worn_85 : decode cX9_worn 85 = .ok (.iload 5, 2) := by decide +kernel
theorem dX9_worn_87 : decode cX9_worn 87 = .ok (.goto 5, 3) := by decide +kernel
theorem dX9_worn_90 : decode cX9_worn 90 = .ok (.bipush (-4), 2) := by decide +kernel
theorem dX9_worn_92 : decode cX9_worn 92 = .ok (.iastore, 1) := by decide +kernel
theorem dX9_worn_93 : decode cX9_worn 93 = .ok (.iload 4, 2) := by decide +kernel
theorem dX9_worn_95 : decode cX9_worn 95 = .ok (.aload_n 0, 1) := by decide +kernel
theorem dX9_worn_96 : decode cX9_worn 96 = .ok (.iload_n 1, 1) := by decide +kernel
theorem dX9_worn_97 : decode cX9_worn 97 = .ok (.invokevirtual 307, 3) := by decide +kernel
theorem dX9_worn_100 : decode cX9_worn 100 = .ok (.invokestatic 173, 3) := by decide +kernel
theorem dX9_worn_103 : decode cX9_worn 103 = .ok (.iload 5, 2) := by decide +kernel
theorem dX9_worn_105 : decode cX9_worn 105 = .ok (.ishl, 1) := by decide +kernel
theorem dX9_worn_106 : decode cX9_worn 106 = .ok (.ior, 1) := by decide +kernel
theorem dX9_worn_107 : decode cX9_worn 107 = .ok (.istore 4, 2) := by decide +kernel
theorem dX9_worn_109 : decode cX9_worn 109 = .ok (.iinc 5 1, 3) := by decide +kernel
theorem dX9_worn_112 : decode cX9_worn 112 = .ok (.goto (-82), 3) := by decide +kernel
theorem dX9_worn_115 : decode cX9_worn 115 = .ok (.aload_n 0, 1) := by decide +kernel
theorem dX9_worn_116 : decode cX9_worn 116 = .ok (.getfield 7, 3) := by decide +kernel
theorem dX9_worn_119 : decode cX9_worn 119 = .ok (.iconst 1, 1) := by decide +kernel
theorem dX9_worn_120 : decode cX9_worn 120 = .ok (.bipush 6, 2) := by decide +kernel
theorem dX9_worn_122 : decode cX9_worn 122 = .ok (.iload_n 1, 1) := by decide +kernel
theorem dX9_worn_123 : decode cX9_worn 123 = .ok (.imul, 1) := by decide +kernel
theorem dX9_worn_124 : decode cX9_worn 124 = .ok (.iadd, 1) := by decide +kernel
theorem dX9_worn_125 : decode cX9_worn 125 = .ok (.iconst 0, 1) := by decide +kernel
theorem dX9_worn_126 : decode cX9_worn 126 = .ok (.iadd, 1) := by decide +kernel
theorem dX9_worn_127 : decode cX9_worn 127 = .ok (.iload_n 2, 1) := by decide +kernel
theorem dX9_worn_128 : decode cX9_worn 128 = .ok (.iastore, 1) := by decide +kernel
theorem dX9_worn_129 : decode cX9_worn 129 = .ok (.aload_n 0, 1) := by decide +kernel
theorem dX9_worn_130 : decode cX9_worn 130 = .ok (.getfield 7, 3) := by decide +kernel
theorem dX9_worn_133 : decode cX9_worn 133 = .ok (.iconst 1, 1) := by decide +kernel
theorem dX9_worn_134 : decode cX9_worn 134 = .ok (.bipush 6, 2) := by decide +kernel
theorem dX9_worn_136 : decode cX9_worn 136 = .ok (.iload_n 1, 1) := by decide +kernel
theorem dX9_worn_137 : decode cX9_worn 137 = .ok (.imul, 1) := by decide +kernel
theorem dX9_worn_138 : decode cX9_worn 138 = .ok (.iadd, 1) := by decide +kernel
theorem dX9_worn_139 : decode cX9_worn 139 = .ok (.iconst 4, 1) := by decide +kernel
theorem dX9_worn_140 : decode cX9_worn 140 = .ok (.iadd, 1) := by decide +kernel
theorem dX9_worn_141 : decode cX9_worn 141 = .ok (.iload_n 3, 1) := by decide +kernel
theorem dX9_worn_142 : decode cX9_worn 142 = .ok (.iastore, 1) := by decide +kernel
theorem dX9_worn_143 : decode cX9_worn 143 = .ok (.iload 4, 2) := by decide +kernel
theorem dX9_worn_145 : decode cX9_worn 145 = .ok (.ireturn, 1) := by decide +kernel
theorem dX9_isFright_0 : decode cX9_isFright 0 = .ok (.iconst 0, 1) := by decide +kernel
theorem dX9_isFright_1 : decode cX9_isFright 1 = .ok (.istore 4, 2) := by decide +kernel
theorem dX9_isFright_3 : decode cX9_isFright 3 = .ok (.iconst 0, 1) := by decide +kernel
theorem dX9_isFright_4 : decode cX9_isFright 4 = .ok (.istore 5, 2) := by decide +kernel
theorem dX9_isFright_6 : decode cX9_isFright 6 = .ok (.iload 5, 2) := by decide +kernel
theorem dX9_isFright_8 : decode cX9_isFright 8 = .ok (.aload_n 0, 1) := by decide +kernel
theorem dX9_isFright_9 : decode cX9_isFright 9 = .ok (.getfield 7, 3) := by decide +kernel
theorem dX9_isFright_12 : decode cX9_isFright 12 = .ok (.iconst 0, 1) := by decide +kernel
theorem dX9_isFright_13 : decode cX9_isFright 13 = .ok (.iaload, 1) := by decide +kernel
theorem dX9_isFright_14 : decode cX9_isFright 14 = .ok (.if_icmp .ge 59, 3) := by decide +kernel
theorem dX9_isFright_17 : decode cX9_isFright 17 = .ok (.iload 4, 2) := by decide +kernel
theorem dX9_isFright_19 : decode cX9_isFright 19 = .ok (.ifCond .ne 41, 3) := by decide +kernel
theorem dX9_isFright_22 : decode cX9_isFright 22 = .ok (.aload_n 0, 1) := by decide +kernel
theorem dX9_isFright_23 : decode cX9_isFright 23 = .ok (.iload 5, 2) := by decide +kernel
theorem dX9_isFright_25 : decode cX9_isFright 25 = .ok (.lload_n 2, 1) := by decide +kernel
theorem dX9_isFright_26 : decode cX9_isFright 26 = .ok (.invokevirtual 169, 3) := by decide +kernel
theorem dX9_isFright_29 : decode cX9_isFright 29 = .ok (.ifCond .eq 35, 3) := by decide +kernel
theorem dX9_isFright_32 : decode cX9_isFright 32 = .ok (.aload_n 0, 1) := by decide +kernel
theorem dX9_isFright_33 : decode cX9_isFright 33 = .ok (.iload 5, 2) := by decide +kernel
theorem dX9_isFright_35 : decode cX9_isFright 35 = .ok (.lload_n 2, 1) := by decide +kernel
theorem dX9_isFright_36 : decode cX9_isFright 36 = .ok (.invokevirtual 263, 3) := by decide +kernel
theorem dX9_isFright_39 : decode cX9_isFright 39 = .ok (.i2l, 1) := by decide +kernel
theorem dX9_isFright_40 : decode cX9_isFright 40 = .ok (.iload_n 1, 1) := by decide +kernel
theorem dX9_isFright_41 : decode cX9_isFright 41 = .ok (.aload_n 0, 1) := by decide +kernel
theorem dX9_isFright_42 : decode cX9_isFright 42 = .ok (.getfield 63, 3) := by decide +kernel
theorem dX9_isFright_45 : decode cX9_isFright 45 = .ok (.isub, 1) := by decide +kernel
theorem dX9_isFright_46 : decode cX9_isFright 46 = .ok (.i2l, 1) := by decide +kernel
theorem dX9_isFright_47 : decode cX9_isFright 47 = .ok (.iload_n 1, 1) := by decide +kernel
theorem dX9_isFright_48 : decode cX9_isFright 48 = .ok (.aload_n 0, 1) := by decide +kernel
theorem dX9_isFright_49 : decode cX9_isFright 49 = .ok (.getfield 63, 3) := by decide +kernel
theorem dX9_isFright_52 : decode cX9_isFright 52 = .ok (.iadd, 1) := by decide +kernel
theorem dX9_isFright_53 : decode cX9_isFright 53 = .ok (.i2l, 1) := by decide +kernel
theorem dX9_isFright_54 : decode cX9_isFright 54 = .ok (.invokestatic 71, 3) := by decide +kernel
theorem dX9_isFright_57 : decode cX9_isFright 57 = .ok (.ifCond .eq 7, 3) := by decide +kernel
theorem dX9_isFright_60 : decode cX9_isFright 60 = .ok (.iconst 1, 1) := by decide +kernel
theorem dX9_isFright_61 : decode cX9_isFright 61 = .ok (.goto 4, 3) := by decide +kernel
theorem dX9_isFright_64 : decode cX9_isFright 64 = .ok (.iconst 0, 1) := by decide +kernel
theorem dX9_isFright_65 : decode cX9_isFright 65 = .ok (.istore 4, 2) := by decide +kernel
theorem dX9_isFright_67 : decode cX9_isFright 67 = .ok (.iinc 5 1, 3) := by decide +kernel
theorem dX9_isFright_70 : decode cX9_isFright 70 = .ok (.goto (-64), 3) := by decide +kernel
theorem dX9_isFright_73 : decode cX9_isFright 73 = .ok (.iload 4, 2) := by decide +kernel
theorem dX9_isFright_75 : decode cX9_isFright 75 = .ok (.ireturn, 1) := by decide +kernel
theorem dX9_frightOf_0 : decode cX9_frightOf 0 = .ok (.iconst 0, 1) := by decide +kernel
theorem dX9_frightOf_1 : decode cX9_frightOf 1 = .ok (.istore 5, 2) := by decide +kernel
theorem dX9_frightOf_3 : decode cX9_frightOf 3 = .ok (.iconst 0, 1) := by decide +kernel
theorem dX9_frightOf_4 : decode cX9_frightOf 4 = .ok (.istore 6, 2) := by decide +kernel
theorem dX9_frightOf_6 : decode cX9_frightOf 6 = .ok (.iload 6, 2) := by decide +kernel
theorem dX9_frightOf_8 : decode cX9_frightOf 8 = .ok (.iload 4, 2) := by decide +kernel
theorem dX9_frightOf_10 : decode cX9_frightOf 10 = .ok (.if_icmp .ge 27, 3) := by decide +kernel
theorem dX9_frightOf_13 : decode cX9_frightOf 13 = .ok (.iload 5, 2) := by decide +kernel
theorem dX9_frightOf_15 : decode cX9_frightOf 15 = .ok (.aload_n 0, 1) := by decide +kernel
theorem dX9_frightOf_16 : decode cX9_frightOf 16 = .ok (.iload_n 1, 1) := by decide +kernel
theorem dX9_frightOf_17 : decode cX9_frightOf 17 = .ok (.lload_n 2, 1) := by decide +kernel
theorem dX9_frightOf_18 : decode cX9_frightOf 18 = .ok (.iload 6, 2) := by decide +kernel
theorem dX9_frightOf_20 : decode cX9_frightOf 20 = .ok (.i2l, 1) := by decide +kernel
theorem dX9_frightOf_21 : decode cX9_frightOf 21 = .ok (.ladd, 1) := by decide +kernel
theorem dX9_frightOf_22 : decode cX9_frightOf 22 = .ok (.invokevirtual 313, 3) := by decide +kernel
theorem dX9_frightOf_25 : decode cX9_frightOf 25 = .ok (.invokestatic 173, 3) := by decide +kernel
theorem dX9_frightOf_28 : decode cX9_frightOf 28 = .ok (.iadd, 1) := by decide +kernel
theorem dX9_frightOf_29 : decode cX9_frightOf 29 = .ok (.istore 5, 2) := by decide +kernel
theorem dX9_frightOf_31 : decode cX9_frightOf 31 = .ok (.iinc 6 1, 3) := by decide +kernel
theorem dX9_frightOf_34 : decode cX9_frightOf 34 = .ok (.goto (-28), 3) := by decide +kernel
theorem dX9_frightOf_37 : decode cX9_frightOf 37 = .ok (.iload 5, 2) := by decide +kernel
theorem dX9_frightOf_39 : decode cX9_frightOf 39 = .ok (.ireturn, 1) := by decide +kernel
theorem dX9_fright_0 : decode cX9_fright 0 = .ok (.iload_n 1, 1) := by decide +kernel
theorem dX9_fright_1 : decode cX9_fright 1 = .ok (.i2l, 1) := by decide +kernel
theorem dX9_fright_2 : decode cX9_fright 2 = .ok (.lconst 0, 1) := by decide +kernel
theorem dX9_fright_3 : decode cX9_fright 3 = .ok (.ldc2_w 276, 3) := by decide +kernel
theorem dX9_fright_6 : decode cX9_fright 6 = .ok (.invokestatic 71, 3) := by decide +kernel
theorem dX9_fright_9 : decode cX9_fright 9 = .ok (.ifCond .eq 23, 3) := by decide +kernel
theorem dX9_fright_12 : decode cX9_fright 12 = .ok (.lload_n 2, 1) := by decide +kernel
theorem dX9_fright_13 : decode cX9_fright 13 = .ok (.iload 4, 2) := by decide +kernel
theorem dX9_fright_15 : decode cX9_fright 15 = .ok (.invokestatic 269, 3) := by decide +kernel
theorem dX9_fright_18 : decode cX9_fright 18 = .ok (.ifCond .eq 14, 3) := by decide +kernel
theorem dX9_fright_21 : decode cX9_fright 21 = .ok (.aload_n 0, 1) := by decide +kernel
theorem dX9_fright_22 : decode cX9_fright 22 = .ok (.iload_n 1, 1) := by decide +kernel
theorem dX9_fright_23 : decode cX9_fright 23 = .ok (.lload_n 2, 1) := by decide +kernel
theorem dX9_fright_24 : decode cX9_fright 24 = .ok (.iload 4, 2) := by decide +kernel
theorem dX9_fright_26 : decode cX9_fright 26 = .ok (.invokevirtual 316, 3) := by decide +kernel
theorem dX9_fright_29 : decode cX9_fright 29 = .ok (.goto 4, 3) := by decide +kernel
theorem dX9_fright_32 : decode cX9_fright 32 = .ok (.iconst (-1), 1) := by decide +kernel
theorem dX9_fright_33 : decode cX9_fright 33 = .ok (.ireturn, 1) := by decide +kernel
theorem dX9_stand_0 : decode cX9_stand 0 = .ok (.lload_n 1, 1) := by decide +kernel
theorem dX9_stand_1 : decode cX9_stand 1 = .ok (.iload_n 3, 1) := by decide +kernel
theorem dX9_stand_2 : decode cX9_stand 2 = .ok (.invokestatic 269, 3) := by decide +kernel
theorem dX9_stand_5 : decode cX9_stand 5 = .ok (.ifCond .ne 5, 3) := by decide +kernel
theorem dX9_stand_8 : decode cX9_stand 8 = .ok (.iconst (-1), 1) := by decide +kernel
theorem dX9_stand_9 : decode cX9_stand 9 = .ok (.ireturn, 1) := by decide +kernel
theorem dX9_stand_10 : decode cX9_stand 10 = .ok (.bipush (-4), 2) := by decide +kernel
theorem dX9_stand_12 : decode cX9_stand 12 = .ok (.istore 4, 2) := by decide +kernel
theorem dX9_stand_14 : decode cX9_stand 14 = .ok (.iconst 0, 1) := by decide +kernel
theorem dX9_stand_15 : decode cX9_stand 15 = .ok (.istore 5, 2) := by decide +kernel
theorem dX9_stand_17 : decode cX9_stand 17 = .ok (.iconst 0, 1) := by decide +kernel
theorem dX9_stand_18 : decode cX9_stand 18 = .ok (.istore 6, 2) := by decide +kernel
theorem dX9_stand_20 : decode cX9_stand 20 = .ok (.iload 6, 2) := by decide +kernel
theorem dX9_stand_22 : decode cX9_stand 22 = .ok (.bipush 9, 2) := by decide +kernel
theorem dX9_stand_24 : decode cX9_stand 24 = .ok (.if_icmp .ge 68, 3) := by decide +kernel
theorem dX9_stand_27 : decode cX9_stand 27 = .ok (.aload_n 0, 1) := by decide +kernel
theorem dX9_stand_28 : decode cX9_stand 28 = .ok (.iload 6, 2) := by decide +kernel
theorem dX9_stand_30 : decode cX9_stand 30 = .ok (.lload_n 1, 1) := by decide +kernel
theorem dX9_stand_31 : decode cX9_stand 31 = .ok (.iload_n 3, 1) := by decide +kernel
theorem dX9_stand_32 : decode cX9_stand 32 = .ok (.invokevirtual 316, 3) := by decide +kernel
theorem dX9_stand_35 : decode cX9_stand 35 = .ok (.istore 7, 2) := by decide +kernel
theorem dX9_stand_37 : decode cX9_stand 37 = .ok (.iload 4, 2) := by decide +kernel
theorem dX9_stand_39 : decode cX9_stand 39 = .ok (.bipush (-4), 2) := by decide +kernel
theorem dX9_stand_41 : decode cX9_stand 41 = .ok (.if_icmp .eq 10, 3) := by decide +kernel
theorem dX9_stand_44 : decode cX9_stand 44 = .ok (.iload 7, 2) := by decide +kernel
theorem dX9_stand_46 : decode cX9_stand 46 = .ok (.iload 5, 2) := by decide +kernel
theorem dX9_stand_48 : decode cX9_stand 48 = .ok (.if_icmp .ge 7, 3) := by decide +kernel
theorem dX9_stand_51 : decode cX9_stand 51 = .ok (.iconst 1, 1) := by decide +kernel
theorem dX9_stand_52 : decode cX9_stand 52 = .ok (.goto 4, 3) := by decide +kernel
theorem dX9_stand_55 : decode cX9_stand 55 = .ok (.iconst 0, 1) := by decide +kernel
theorem dX9_stand_56 : decode cX9_stand 56 = .ok (.istore 8, 2) := by decide +kernel
theorem dX9_stand_58 : decode cX9_stand 58 = .ok (.iload 8, 2) := by decide +kernel
theorem dX9_stand_60 : decode cX9_stand 60 = .ok (.ifCond .eq 8, 3) := by decide +kernel
theorem dX9_stand_63 : decode cX9_stand 63 = .ok (.iload 6, 2) := by decide +kernel
theorem dX9_stand_65 : decode cX9_stand 65 = .ok (.goto 5, 3) := by decide +kernel
theorem dX9_stand_68 : decode cX9_stand 68 = .ok (.iload 4, 2) := by decide +kernel
theorem dX9_stand_70 : decode cX9_stand 70 = .ok (.istore 4, 2) := by decide +kernel
theorem dX9_stand_72 : decode cX9_stand 72 = .ok (.iload 8, 2) := by decide +kernel
theorem dX9_stand_74 : decode cX9_stand 74 = .ok (.ifCond .eq 8, 3) := by decide +kernel
theorem dX9_stand_77 : decode cX9_stand 77 = .ok (.iload 7, 2) := by decide +kernel
theorem dX9_stand_79 : decode cX9_stand 79 = .ok (.goto 5, 3) := by decide +kernel
theorem dX9_stand_82 : decode cX9_stand 82 = .ok (.iload 5, 2) := by decide +kernel
theorem dX9_stand_84 : decode cX9_stand 84 = .ok (.istore 5, 2) := by decide +kernel
theorem dX9_stand_86 : decode cX9_stand 86 = .ok (.iinc 6 1, 3) := by decide +kernel
theorem dX9_stand_89 : decode cX9_stand 89 = .ok (.goto (-69), 3) := by decide +kernel
theorem dX9_stand_92 : decode cX9_stand 92 = .ok (.iload 4, 2) := by decide +kernel
theorem dX9_stand_94 : decode cX9_stand 94 = .ok (.ireturn, 1) := by decide +kernel
theorem dX9_copies_0 : decode cX9_copies 0 = .ok (.iconst 0, 1) := by decide +kernel
theorem dX9_copies_1 : decode cX9_copies 1 = .ok (.istore_n 3, 1) := by decide +kernel
theorem dX9_copies_2 : decode cX9_copies 2 = .ok (.iload_n 3, 1) := by decide +kernel
theorem dX9_copies_3 : decode cX9_copies 3 = .ok (.bipush 108, 2) := by decide +kernel
theorem dX9_copies_5 : decode cX9_copies 5 = .ok (.if_icmp .ge 25, 3) := by decide +kernel
theorem dX9_copies_8 : decode cX9_copies 8 = .ok (.aload_n 0, 1) := by decide +kernel
theorem dX9_copies_9 : decode cX9_copies 9 = .ok (.getfield 7, 3) := by decide +kernel
theorem dX9_copies_12 : decode cX9_copies 12 = .ok (.iload_n 1, 1) := by decide +kernel
theorem dX9_copies_13 : decode cX9_copies 13 = .ok (.iload_n 3, 1) := by decide +kernel
theorem dX9_copies_14 : decode cX9_copies 14 = .ok (.iadd, 1) := by decide +kernel
theorem dX9_copies_15 : decode cX9_copies 15 = .ok (.aload_n 0, 1) := by decide +kernel
theorem dX9_copies_16 : decode cX9_copies 16 = .ok (.getfield 7, 3) := by decide +kernel
theorem dX9_copies_19 : decode cX9_copies 19 = .ok (.iload_n 2, 1) := by decide +kernel
theorem dX9_copies_20 : decode cX9_copies 20 = .ok (.iload_n 3, 1) := by decide +kernel
theorem dX9_copies_21 : decode cX9_copies 21 = .ok (.iadd, 1) := by decide +kernel
theorem dX9_copies_22 : decode cX9_copies 22 = .ok (.iaload, 1) := by decide +kernel
theorem dX9_copies_23 : decode cX9_copies 23 = .ok (.iastore, 1) := by decide +kernel
theorem dX9_copies_24 : decode cX9_copies 24 = .ok (.iinc 3 1, 3) := by decide +kernel
theorem dX9_copies_27 : decode cX9_copies 27 = .ok (.goto (-25), 3) := by decide +kernel
theorem dX9_copies_30 : decode cX9_copies 30 = .ok (.return_, 1) := by decide +kernel
theorem dX9_keep_0 : decode cX9_keep 0 = .ok (.iload_n 1, 1) := by decide +kernel
theorem dX9_keep_1 : decode cX9_keep 1 = .ok (.i2l, 1) := by decide +kernel
theorem dX9_keep_2 : decode cX9_keep 2 = .ok (.lconst 0, 1) := by decide +kernel
theorem dX9_keep_3 : decode cX9_keep 3 = .ok (.lconst 1, 1) := by decide +kernel
theorem dX9_keep_4 : decode cX9_keep 4 = .ok (.invokestatic 71, 3) := by decide +kernel
theorem dX9_keep_7 : decode cX9_keep 7 = .ok (.ifCond .ne 5, 3) := by decide +kernel
theorem dX9_keep_10 : decode cX9_keep 10 = .ok (.iconst (-1), 1) := by decide +kernel
theorem dX9_keep_11 : decode cX9_keep 11 = .ok (.ireturn, 1) := by decide +kernel
theorem dX9_keep_12 : decode cX9_keep 12 = .ok (.aload_n 0, 1) := by decide +kernel
theorem dX9_keep_13 : decode cX9_keep 13 = .ok (.getfield 13, 3) := by decide +kernel
theorem dX9_keep_16 : decode cX9_keep 16 = .ok (.iload_n 1, 1) := by decide +kernel
theorem dX9_keep_17 : decode cX9_keep 17 = .ok (.baload, 1) := by decide +kernel
theorem dX9_keep_18 : decode cX9_keep 18 = .ok (.invokestatic 173, 3) := by decide +kernel
theorem dX9_keep_21 : decode cX9_keep 21 = .ok (.istore_n 2, 1) := by decide +kernel
theorem dX9_keep_22 : decode cX9_keep 22 = .ok (.aload_n 0, 1) := by decide +kernel
theorem dX9_keep_23 : decode cX9_keep 23 = .ok (.getfield 13, 3) := by decide +kernel
theorem dX9_keep_26 : decode cX9_keep 26 = .ok (.iload_n 1, 1) := by decide +kernel
theorem dX9_keep_27 : decode cX9_keep 27 = .ok (.iconst 1, 1) := by decide +kernel
theorem dX9_keep_28 : decode cX9_keep 28 = .ok (.bastore, 1) := by decide +kernel
theorem dX9_keep_29 : decode cX9_keep 29 = .ok (.aload_n 0, 1) := by decide +kernel
theorem dX9_keep_30 : decode cX9_keep 30 = .ok (.bipush 108, 2) := by decide +kernel
theorem dX9_keep_32 : decode cX9_keep 32 = .ok (.iload_n 1, 1) := by decide +kernel
theorem dX9_keep_33 : decode cX9_keep 33 = .ok (.iconst 1, 1) := by decide +kernel
theorem dX9_keep_34 : decode cX9_keep 34 = .ok (.iadd, 1) := by decide +kernel
theorem dX9_keep_35 : decode cX9_keep 35 = .ok (.imul, 1) := by decide +kernel
theorem dX9_keep_36 : decode cX9_keep 36 = .ok (.iconst 0, 1) := by decide +kernel
theorem dX9_keep_37 : decode cX9_keep 37 = .ok (.invokevirtual 320, 3) := by decide +kernel
theorem dX9_keep_40 : decode cX9_keep 40 = .ok (.iload_n 2, 1) := by decide +kernel
theorem dX9_keep_41 : decode cX9_keep 41 = .ok (.ireturn, 1) := by decide +kernel
theorem dX9_back_0 : decode cX9_back 0 = .ok (.iload_n 1, 1) := by decide +kernel
theorem dX9_back_1 : decode cX9_back 1 = .ok (.i2l, 1) := by decide +kernel
theorem dX9_back_2 : decode cX9_back 2 = .ok (.lconst 0, 1) := by decide +kernel
theorem dX9_back_3 : decode cX9_back 3 = .ok (.lconst 1, 1) := by decide +kernel
theorem dX9_back_4 : decode cX9_back 4 = .ok (.invokestatic 71, 3) := by decide +kernel
theorem dX9_back_7 : decode cX9_back 7 = .ok (.ifCond .ne 5, 3) := by decide +kernel
theorem dX9_back_10 : decode cX9_back 10 = .ok (.iconst (-1), 1) := by decide +kernel
theorem dX9_back_11 : decode cX9_back 11 = .ok (.ireturn, 1) := by decide +kernel
theorem dX9_back_12 : decode cX9_back 12 = .ok (.aload_n 0, 1) := by decide +kernel
theorem dX9_back_13 : decode cX9_back 13 = .ok (.getfield 13, 3) := by decide +kernel
theorem dX9_back_16 : decode cX9_back 16 = .ok (.iload_n 1, 1) := by decide +kernel
theorem dX9_back_17 : decode cX9_back 17 = .ok (.baload, 1) := by decide +kernel
theorem dX9_back_18 : decode cX9_back 18 = .ok (.ifCond .ne 6, 3) := by decide +kernel
theorem dX9_back_21 : decode cX9_back 21 = .ok (.bipush (-2), 2) := by decide +kernel
theorem dX9_back_23 : decode cX9_back 23 = .ok (.ireturn, 1) := by decide +kernel
theorem dX9_back_24 : decode cX9_back 24 = .ok (.aload_n 0, 1) := by decide +kernel
theorem dX9_back_25 : decode cX9_back 25 = .ok (.iconst 0, 1) := by decide +kernel
theorem dX9_back_26 : decode cX9_back 26 = .ok (.bipush 108, 2) := by decide +kernel
theorem dX9_back_28 : decode cX9_back 28 = .ok (.iload_n 1, 1) := by decide +kernel
theorem dX9_back_29 : decode cX9_back 29 = .ok (.iconst 1, 1) := by decide +kernel
theorem dX9_back_30 : decode cX9_back 30 = .ok (.iadd, 1) := by decide +kernel
theorem dX9_back_31 : decode cX9_back 31 = .ok (.imul, 1) := by decide +kernel
theorem dX9_back_32 : decode cX9_back 32 = .ok (.invokevirtual 320, 3) := by decide +kernel
theorem dX9_back_35 : decode cX9_back 35 = .ok (.aload_n 0, 1) := by decide +kernel
theorem dX9_back_36 : decode cX9_back 36 = .ok (.getfield 7, 3) := by decide +kernel
theorem dX9_back_39 : decode cX9_back 39 = .ok (.iconst 0, 1) := by decide +kernel
theorem dX9_back_40 : decode cX9_back 40 = .ok (.iaload, 1) := by decide +kernel
theorem dX9_back_41 : decode cX9_back 41 = .ok (.ireturn, 1) := by decide +kernel
theorem dX9_isSheet_0 : decode cX9_isSheet 0 = .ok (.iload_n 0, 1) := by decide +kernel
theorem dX9_isSheet_1 : decode cX9_isSheet 1 = .ok (.i2l, 1) := by decide +kernel
theorem dX9_isSheet_2 : decode cX9_isSheet 2 = .ok (.lconst 0, 1) := by decide +kernel
theorem dX9_isSheet_3 : decode cX9_isSheet 3 = .ok (.ldc2_w 324, 3) := by decide +kernel
theorem dX9_isSheet_6 : decode cX9_isSheet 6 = .ok (.invokestatic 71, 3) := by decide +kernel
theorem dX9_isSheet_9 : decode cX9_isSheet 9 = .ok (.ifCond .eq 19, 3) := by decide +kernel
theorem dX9_isSheet_12 : decode cX9_isSheet 12 = .ok (.iload_n 1, 1) := by decide +kernel
theorem dX9_isSheet_13 : decode cX9_isSheet 13 = .ok (.i2l, 1) := by decide +kernel
theorem dX9_isSheet_14 : decode cX9_isSheet 14 = .ok (.lconst 0, 1) := by decide +kernel
theorem dX9_isSheet_15 : decode cX9_isSheet 15 = .ok (.ldc2_w 278, 3) := by decide +kernel
theorem dX9_isSheet_18 : decode cX9_isSheet 18 = .ok (.invokestatic 71, 3) := by decide +kernel
theorem dX9_isSheet_21 : decode cX9_isSheet 21 = .ok (.ifCond .eq 7, 3) := by decide +kernel
theorem dX9_isSheet_24 : decode cX9_isSheet 24 = .ok (.iconst 1, 1) := by decide +kernel
theorem dX9_isSheet_25 : decode cX9_isSheet 25 = .ok (.goto 4, 3) := by decide +kernel
theorem dX9_isSheet_28 : decode cX9_isSheet 28 = .ok (.iconst 0, 1) := by decide +kernel
theorem dX9_isSheet_29 : decode cX9_isSheet 29 = .ok (.ireturn, 1) := by decide +kernel
theorem dX9_sheet_0 : decode cX9_sheet 0 = .ok (.iload_n 1, 1) := by decide +kernel
theorem dX9_sheet_1 : decode cX9_sheet 1 = .ok (.iload_n 2, 1) := by decide +kernel
theorem dX9_sheet_2 : decode cX9_sheet 2 = .ok (.invokestatic 326, 3) := by decide +kernel
theorem dX9_sheet_5 : decode cX9_sheet 5 = .ok (.ifCond .eq 9, 3) := by decide +kernel
theorem dX9_sheet_8 : decode cX9_sheet 8 = .ok (.iload_n 3, 1) := by decide +kernel
theorem dX9_sheet_9 : decode cX9_sheet 9 = .ok (.bipush 40, 2) := by decide +kernel
theorem dX9_sheet_11 : decode cX9_sheet 11 = .ok (.if_icmp .le 5, 3) := by decide +kernel
theorem dX9_sheet_14 : decode cX9_sheet 14 = .ok (.iconst (-1), 1) := by decide +kernel
theorem dX9_sheet_15 : decode cX9_sheet 15 = .ok (.ireturn, 1) := by decide +kernel
theorem dX9_sheet_16 : decode cX9_sheet 16 = .ok (.iload_n 3, 1) := by decide +kernel
theorem dX9_sheet_17 : decode cX9_sheet 17 = .ok (.ifCond .ge 6, 3) := by decide +kernel
theorem dX9_sheet_20 : decode cX9_sheet 20 = .ok (.bipush (-14), 2) := by decide +kernel
theorem dX9_sheet_22 : decode cX9_sheet 22 = .ok (.ireturn, 1) := by decide +kernel
theorem dX9_sheet_23 : decode cX9_sheet 23 = .ok (.aload_n 0, 1) := by decide +kernel
theorem dX9_sheet_24 : decode cX9_sheet 24 = .ok (.getfield 34, 3) := by decide +kernel
theorem dX9_sheet_27 : decode cX9_sheet 27 = .ok (.iload_n 1, 1) := by decide +kernel
theorem dX9_sheet_28 : decode cX9_sheet 28 = .ok (.iload_n 2, 1) := by decide +kernel
theorem dX9_sheet_29 : decode cX9_sheet 29 = .ok (.iastore, 1) := by decide +kernel
theorem dX9_sheet_30 : decode cX9_sheet 30 = .ok (.aload_n 0, 1) := by decide +kernel
theorem dX9_sheet_31 : decode cX9_sheet 31 = .ok (.getfield 37, 3) := by decide +kernel
theorem dX9_sheet_34 : decode cX9_sheet 34 = .ok (.iload_n 1, 1) := by decide +kernel
theorem dX9_sheet_35 : decode cX9_sheet 35 = .ok (.iload_n 3, 1) := by decide +kernel
theorem dX9_sheet_36 : decode cX9_sheet 36 = .ok (.iastore, 1) := by decide +kernel
theorem dX9_sheet_37 : decode cX9_sheet 37 = .ok (.iconst 0, 1) := by decide +kernel
theorem dX9_sheet_38 : decode cX9_sheet 38 = .ok (.istore 4, 2) := by decide +kernel
theorem dX9_sheet_40 : decode cX9_sheet 40 = .ok (.iload 4, 2) := by decide +kernel
theorem dX9_sheet_42 : decode cX9_sheet 42 = .ok (.bipush 40, 2) := by decide +kernel
theorem dX9_sheet_44 : decode cX9_sheet 44 = .ok (.if_icmp .ge 22, 3) := by decide +kernel
theorem dX9_sheet_47 : decode cX9_sheet 47 = .ok (.aload_n 0, 1) := by decide +kernel
theorem dX9_sheet_48 : decode cX9_sheet 48 = .ok (.getfield 40, 3) := by decide +kernel
theorem dX9_sheet_51 : decode cX9_sheet 51 = .ok (.bipush 40, 2) := by decide +kernel
theorem dX9_sheet_53 : decode cX9_sheet 53 = .ok (.iload_n 1, 1) := by decide +kernel
theorem dX9_sheet_54 : decode cX9_sheet 54 = .ok (.imul, 1) := by decide +kernel
theorem dX9_sheet_55 : decode cX9_sheet 55 = .ok (.iload 4, 2) := by decide +kernel
theorem dX9_sheet_57 : decode cX9_sheet 57 = .ok (.iadd, 1) := by decide +kernel
theorem dX9_sheet_58 : decode cX9_sheet 58 = .ok (.iconst 0, 1) := by decide +kernel
theorem dX9_sheet_59 : decode cX9_sheet 59 = .ok (.iastore, 1) := by decide +kernel
theorem dX9_sheet_60 : decode cX9_sheet 60 = .ok (.iinc 4 1, 3) := by decide +kernel
theorem dX9_sheet_63 : decode cX9_sheet 63 = .ok (.goto (-23), 3) := by decide +kernel
theorem dX9_sheet_66 : decode cX9_sheet 66 = .ok (.iconst 1, 1) := by decide +kernel
theorem dX9_sheet_67 : decode cX9_sheet 67 = .ok (.ireturn, 1) := by decide +kernel
theorem dX9_lay_0 : decode cX9_lay 0 = .ok (.iload_n 1, 1) := by decide +kernel
theorem dX9_lay_1 : decode cX9_lay 1 = .ok (.iconst 0, 1) := by decide +kernel
theorem dX9_lay_2 : decode cX9_lay 2 = .ok (.invokestatic 326, 3) := by decide +kernel
theorem dX9_lay_5 : decode cX9_lay 5 = .ok (.ifCond .ne 5, 3) := by decide +kernel
theorem dX9_lay_8 : decode cX9_lay 8 = .ok (.iconst (-1), 1) := by decide +kernel
theorem dX9_lay_9 : decode cX9_lay 9 = .ok (.ireturn, 1) := by decide +kernel
theorem dX9_lay_10 : decode cX9_lay 10 = .ok (.aload_n 0, 1) := by decide +kernel
theorem dX9_lay_11 : decode cX9_lay 11 = .ok (.getfield 34, 3) := by decide +kernel
theorem dX9_lay_14 : decode cX9_lay 14 = .ok (.iload_n 1, 1) := by decide +kernel
theorem dX9_lay_15 : decode cX9_lay 15 = .ok (.iaload, 1) := by decide +kernel
theorem dX9_lay_16 : decode cX9_lay 16 = .ok (.bipush (-4), 2) := by decide +kernel
theorem dX9_lay_18 : decode cX9_lay 18 = .ok (.if_icmp .ne 6, 3) := by decide +kernel
theorem dX9_lay_21 : decode cX9_lay 21 = .ok (.bipush (-11), 2) := by decide +kernel
theorem dX9_lay_23 : decode cX9_lay 23 = .ok (.ireturn, 1) := by decide +kernel
theorem dX9_lay_24 : decode cX9_lay 24 = .ok (.iload_n 2, 1) := by decide +kernel
theorem dX9_lay_25 : decode cX9_lay 25 = .ok (.i2l, 1) := by decide +kernel
theorem dX9_lay_26 : decode cX9_lay 26 = .ok (.lconst 0, 1) := by decide +kernel
theorem dX9_lay_27 : decode cX9_lay 27 = .ok (.aload_n 0, 1) := by decide +kernel
theorem dX9_lay_28 : decode cX9_lay 28 = .ok (.getfield 37, 3) := by decide +kernel
theorem dX9_lay_31 : decode cX9_lay 31 = .ok (.iload_n 1, 1) := by decide +kernel
theorem dX9_lay_32 : decode cX9_lay 32 = .ok (.iaload, 1) := by decide +kernel
theorem dX9_lay_33 : decode cX9_lay 33 = .ok (.iconst 1, 1) := by decide +kernel
theorem dX9_lay_34 : decode cX9_lay 34 = .ok (.isub, 1) := by decide +kernel
theorem dX9_lay_35 : decode cX9_lay 35 = .ok (.i2l, 1) := by decide +kernel
theorem dX9_lay_36 : decode cX9_lay 36 = .ok (.invokestatic 71, 3) := by decide +kernel
theorem dX9_lay_39 : decode cX9_lay 39 = .ok (.ifCond .ne 6, 3) := by decide +kernel
theorem dX9_lay_42 : decode cX9_lay 42 = .ok (.bipush (-12), 2) := by decide +kernel
theorem dX9_lay_44 : decode cX9_lay 44 = .ok (.ireturn, 1) := by decide +kernel
theorem dX9_lay_45 : decode cX9_lay 45 = .ok (.aload_n 0, 1) := by decide +kernel
theorem dX9_lay_46 : decode cX9_lay 46 = .ok (.getfield 40, 3) := by decide +kernel
theorem dX9_lay_49 : decode cX9_lay 49 = .ok (.bipush 40, 2) := by decide +kernel
theorem dX9_lay_51 : decode cX9_lay 51 = .ok (.iload_n 1, 1) := by decide +kernel
theorem dX9_lay_52 : decode cX9_lay 52 = .ok (.imul, 1) := by decide +kernel
theorem dX9_lay_53 : decode cX9_lay 53 = .ok (.iload_n 2, 1) := by decide +kernel
theorem dX9_lay_54 : decode cX9_lay 54 = .ok (.iadd, 1) := by decide +kernel
theorem dX9_lay_55 : decode cX9_lay 55 = .ok (.aload_n 0, 1) := by decide +kernel
theorem dX9_lay_56 : decode cX9_lay 56 = .ok (.getfield 34, 3) := by decide +kernel
theorem dX9_lay_59 : decode cX9_lay 59 = .ok (.iload_n 1, 1) := by decide +kernel
theorem dX9_lay_60 : decode cX9_lay 60 = .ok (.iaload, 1) := by decide +kernel
theorem dX9_lay_61 : decode cX9_lay 61 = .ok (.ifCond .ne 8, 3) := by decide +kernel
theorem dX9_lay_64 : decode cX9_lay 64 = .ok (.iload_n 3, 1) := by decide +kernel
theorem dX9_lay_65 : decode cX9_lay 65 = .ok (.i2b, 1) := by decide +kernel
theorem dX9_lay_66 : decode cX9_lay 66 = .ok (.goto 19, 3) := by decide +kernel
theorem dX9_lay_69 : decode cX9_lay 69 = .ok (.aload_n 0, 1) := by decide +kernel
theorem dX9_lay_70 : decode cX9_lay 70 = .ok (.getfield 34, 3) := by decide +kernel
theorem dX9_lay_73 : decode cX9_lay 73 = .ok (.iload_n 1, 1) := by decide +kernel
theorem dX9_lay_74 : decode cX9_lay 74 = .ok (.iaload, 1) := by decide +kernel
theorem dX9_lay_75 : decode cX9_lay 75 = .ok (.iconst 1, 1) := by decide +kernel
theorem dX9_lay_76 : decode cX9_lay 76 = .ok (.if_icmp .ne 8, 3) := by decide +kernel
theorem dX9_lay_79 : decode cX9_lay 79 = .ok (.iload_n 3, 1) := by decide +kernel
theorem dX9_lay_80 : decode cX9_lay 80 = .ok (.i2s, 1) := by decide +kernel
theorem dX9_lay_81 : decode cX9_lay 81 = .ok (.goto 4, 3) := by decide +kernel
theorem dX9_lay_84 : decode cX9_lay 84 = .ok (.iload_n 3, 1) := by decide +kernel
theorem dX9_lay_85 : decode cX9_lay 85 = .ok (.iastore, 1) := by decide +kernel
theorem dX9_lay_86 : decode cX9_lay 86 = .ok (.iconst 1, 1) := by decide +kernel
theorem dX9_lay_87 : decode cX9_lay 87 = .ok (.ireturn, 1) := by decide +kernel
theorem dX9_read_0 : decode cX9_read 0 = .ok (.iload_n 1, 1) := by decide +kernel
theorem dX9_read_1 : decode cX9_read 1 = .ok (.iload_n 2, 1) := by decide +kernel
theorem dX9_read_2 : decode cX9_read 2 = .ok (.invokestatic 326, 3) := by decide +kernel
theorem dX9_read_5 : decode cX9_read 5 = .ok (.ifCond .eq 16, 3) := by decide +kernel
theorem dX9_read_8 : decode cX9_read 8 = .ok (.iload 4, 2) := by decide +kernel
theorem dX9_read_10 : decode cX9_read 10 = .ok (.i2l, 1) := by decide +kernel
theorem dX9_read_11 : decode cX9_read 11 = .ok (.lconst 0, 1) := by decide +kernel
theorem dX9_read_12 : decode cX9_read 12 = .ok (.ldc2_w 329, 3) := by decide +kernel
theorem dX9_read_15 : decode cX9_read 15 = .ok (.invokestatic 71, 3) := by decide +kernel
theorem dX9_read_18 : decode cX9_read 18 = .ok (.ifCond .ne 5, 3) := by decide +kernel
theorem dX9_read_21 : decode cX9_read 21 = .ok (.iconst (-1), 1) := by decide +kernel
theorem dX9_read_22 : decode cX9_read 22 = .ok (.ireturn, 1) := by decide +kernel
theorem dX9_read_23 : decode cX9_read 23 = .ok (.aload_n 0, 1) := by decide +kernel
theorem dX9_read_24 : decode cX9_read 24 = .ok (.getfield 7, 3) := by decide +kernel
theorem dX9_read_27 : decode cX9_read 27 = .ok (.bipush 71, 2) := by decide +kernel
theorem dX9_read_29 : decode cX9_read 29 = .ok (.iaload, 1) := by decide +kernel
theorem dX9_read_30 : decode cX9_read 30 = .ok (.istore 5, 2) := by decide +kernel
theorem dX9_read_32 : decode cX9_read 32 = .ok (.iconst 0, 1) := by decide +kernel
theorem dX9_read_33 : decode cX9_read 33 = .ok (.istore 6, 2) := by decide +kernel
theorem dX9_read_35 : decode cX9_read 35 = .ok (.iconst 0, 1) := by decide +kernel
theorem dX9_read_36 : decode cX9_read 36 = .ok (.istore 7, 2) := by decide +kernel
theorem dX9_read_38 : decode cX9_read 38 = .ok (.iconst 0, 1) := by decide +kernel
theorem dX9_read_39 : decode cX9_read 39 = .ok (.istore 8, 2) := by decide +kernel
theorem dX9_read_41 : decode cX9_read 41 = .ok (.iload 8, 2) := by decide +kernel
theorem dX9_read_43 : decode cX9_read 43 = .ok (.iload 4, 2) := by decide +kernel
theorem dX9_read_45 : decode cX9_read 45 = .ok (.if_icmp .ge 199, 3) := by decide +kernel
theorem dX9_read_48 : decode cX9_read 48 = .ok (.iload 6, 2) := by decide +kernel
theorem dX9_read_50 : decode cX9_read 50 = .ok (.ifCond .ne 194, 3) := by decide +kernel
theorem dX9_read_53 : decode cX9_read 53 = .ok (.iconst 0, 1) := by decide +kernel
theorem dX9_read_54 : decode cX9_read 54 = .ok (.istore 9, 2) := by decide +kernel
theorem dX9_read_56 : decode cX9_read 56 = .ok (.iload 9, 2) := by decide +kernel
theorem dX9_read_58 : decode cX9_read 58 = .ok (.iconst 3, 1) := by decide +kernel
theorem dX9_read_59 : decode cX9_read 59 = .ok (.if_icmp .ge 84, 3) := by decide +kernel
theorem dX9_read_62 : decode cX9_read 62 = .ok (.iload 6, 2) := by decide +kernel
theorem dX9_read_64 : decode cX9_read 64 = .ok (.ifCond .ne 79, 3) := by decide +kernel
theorem dX9_read_67 : decode cX9_read 67 = .ok (.iload_n 3, 1) := by decide +kernel
theorem dX9_read_68 : decode cX9_read 68 = .ok (.i2l, 1) := by decide +kernel
theorem dX9_read_69 : decode cX9_read 69 = .ok (.iconst 3, 1) := by decide +kernel
theorem dX9_read_70 : decode cX9_read 70 = .ok (.iload 8, 2) := by decide +kernel
theorem dX9_read_72 : decode cX9_read 72 = .ok (.imul, 1) := by decide +kernel
theorem dX9_read_73 : decode cX9_read 73 = .ok (.i2l, 1) := by decide +kernel
theorem dX9_read_74 : decode cX9_read 74 = .ok (.ladd, 1) := by decide +kernel
theorem dX9_read_75 : decode cX9_read 75 = .ok (.iload 9, 2) := by decide +kernel
theorem dX9_read_77 : decode cX9_read 77 = .ok (.i2l, 1) := by decide +kernel
theorem dX9_read_78 : decode cX9_read 78 = .ok (.ladd, 1) := by decide +kernel
theorem dX9_read_79 : decode cX9_read 79 = .ok (.lstore 10, 2) := by decide +kernel
theorem dX9_read_81 : decode cX9_read 81 = .ok (.aload_n 0, 1) := by decide +kernel
theorem dX9_read_82 : decode cX9_read 82 = .ok (.getfield 34, 3) := by decide +kernel
theorem dX9_read_85 : decode cX9_read 85 = .ok (.iload_n 1, 1) := by decide +kernel
theorem dX9_read_86 : decode cX9_read 86 = .ok (.iaload, 1) := by decide +kernel
theorem dX9_read_87 : decode cX9_read 87 = .ok (.bipush (-4), 2) := by decide +kernel
theorem dX9_read_89 : decode cX9_read 89 = .ok (.if_icmp .ne 7, 3) := by decide +kernel
theorem dX9_read_92 : decode cX9_read 92 = .ok (.iconst 1, 1) := by decide +kernel
theorem dX9_read_93 : decode cX9_read 93 = .ok (.goto 42, 3) := by decide +kernel
theorem dX9_read_96 : decode cX9_read 96 = .ok (.aload_n 0, 1) := by decide +kernel
theorem dX9_read_97 : decode cX9_read 97 = .ok (.getfield 34, 3) := by decide +kernel
theorem dX9_read_100 : decode cX9_read 100 = .ok (.iload_n 1, 1) := by decide +kernel
theorem dX9_read_101 : decode cX9_read 101 = .ok (.iaload, 1) := by decide +kernel
theorem dX9_read_102 : decode cX9_read 102 = .ok (.iload_n 2, 1) := by decide +kernel
theorem dX9_read_103 : decode cX9_read 103 = .ok (.if_icmp .eq 7, 3) := by decide +kernel
theorem dX9_read_106 : decode cX9_read 106 = .ok (.iconst 3, 1) := by decide +kernel
theorem dX9_read_107 : decode cX9_read 107 = .ok (.goto 28, 3) := by decide +kernel
theorem dX9_read_110 : decode cX9_read 110 = .ok (.lload 10, 2) := by decide +kernel
theorem dX9_read_112 : decode cX9_read 112 = .ok (.lconst 0, 1) := by decide +kernel
theorem dX9_read_113 : decode cX9_read 113 = .ok (.lcmp, 1) := by decide +kernel
theorem dX9_read_114 : decode cX9_read 114 = .ok (.ifCond .lt 16, 3) := by decide +kernel
theorem dX9_read_117 : decode cX9_read 117 = .ok (.lload 10, 2) := by decide +kernel
theorem dX9_read_119 : decode cX9_read 119 = .ok (.aload_n 0, 1) := by decide +kernel
theorem dX9_read_120 : decode cX9_read 120 = .ok (.getfield 37, 3) := by decide +kernel
theorem dX9_read_123 : decode cX9_read 123 = .ok (.iload_n 1, 1) := by decide +kernel
theorem dX9_read_124 : decode cX9_read 124 = .ok (.iaload, 1) := by decide +kernel
theorem dX9_read_125 : decode cX9_read 125 = .ok (.i2l, 1) := by decide +kernel
theorem dX9_read_126 : decode cX9_read 126 = .ok (.lcmp, 1) := by decide +kernel
theorem dX9_read_127 : decode cX9_read 127 = .ok (.ifCond .lt 7, 3) := by decide +kernel
theorem dX9_read_130 : decode cX9_read 130 = .ok (.iconst 2, 1) := by decide +kernel
theorem dX9_read_131 : decode cX9_read 131 = .ok (.goto 4, 3) := by decide +kernel
theorem dX9_read_134 : decode cX9_read 134 = .ok (.iconst 0, 1) := by decide +kernel
theorem dX9_read_135 : decode cX9_read 135 = .ok (.istore 6, 2) := by decide +kernel
theorem dX9_read_137 : decode cX9_read 137 = .ok (.iinc 9 1, 3) := by decide +kernel
theorem dX9_read_140 : decode cX9_read 140 = .ok (.goto (-84), 3) := by decide +kernel
theorem dX9_read_143 : decode cX9_read 143 = .ok (.iload 6, 2) := by decide +kernel
theorem dX9_read_145 : decode cX9_read 145 = .ok (.ifCond .ne 93, 3) := by decide +kernel
theorem dX9_read_148 : decode cX9_read 148 = .ok (.bipush 40, 2) := by decide +kernel
theorem dX9_read_150 : decode cX9_read 150 = .ok (.iload_n 1, 1) := by decide +kernel
theorem dX9_read_151 : decode cX9_read 151 = .ok (.imul, 1) := by decide +kernel
theorem dX9_read_152 : decode cX9_read 152 = .ok (.iload_n 3, 1) := by decide +kernel
theorem dX9_read_153 : decode cX9_read 153 = .ok (.iadd, 1) := by decide +kernel
theorem dX9_read_154 : decode cX9_read 154 = .ok (.iconst 3, 1) := by decide +kernel
theorem dX9_read_155 : decode cX9_read 155 = .ok (.iload 8, 2) := by decide +kernel
theorem dX9_read_157 : decode cX9_read 157 = .ok (.imul, 1) := by decide +kernel
theorem dX9_read_158 : decode cX9_read 158 = .ok (.iadd, 1) := by decide +kernel
theorem dX9_read_159 : decode cX9_read 159 = .ok (.istore 9, 2) := by decide +kernel
theorem dX9_read_161 : decode cX9_read 161 = .ok (.aload_n 0, 1) := by decide +kernel
theorem dX9_read_162 : decode cX9_read 162 = .ok (.getfield 40, 3) := by decide +kernel
theorem dX9_read_165 : decode cX9_read 165 = .ok (.iload 9, 2) := by decide +kernel
theorem dX9_read_167 : decode cX9_read 167 = .ok (.iconst 2, 1) := by decide +kernel
theorem dX9_read_168 : decode cX9_read 168 = .ok (.iadd, 1) := by decide +kernel
theorem dX9_read_169 : decode cX9_read 169 = .ok (.iaload, 1) := by decide +kernel
theorem dX9_read_170 : decode cX9_read 170 = .ok (.i2l, 1) := by decide +kernel
theorem dX9_read_171 : decode cX9_read 171 = .ok (.lconst 0, 1) := by decide +kernel
theorem dX9_read_172 : decode cX9_read 172 = .ok (.lconst 1, 1) := by decide +kernel
theorem dX9_read_173 : decode cX9_read 173 = .ok (.invokestatic 71, 3) := by decide +kernel
theorem dX9_read_176 : decode cX9_read 176 = .ok (.ifCond .eq 44, 3) := by decide +kernel
theorem dX9_read_179 : decode cX9_read 179 = .ok (.aload_n 0, 1) := by decide +kernel
theorem dX9_read_180 : decode cX9_read 180 = .ok (.aload_n 0, 1) := by decide +kernel
theorem dX9_read_181 : decode cX9_read 181 = .ok (.getfield 40, 3) := by decide +kernel
theorem dX9_read_184 : decode cX9_read 184 = .ok (.iload 9, 2) := by decide +kernel
theorem dX9_read_186 : decode cX9_read 186 = .ok (.iaload, 1) := by decide +kernel
theorem dX9_read_187 : decode cX9_read 187 = .ok (.aload_n 0, 1) := by decide +kernel
theorem dX9_read_188 : decode cX9_read 188 = .ok (.getfield 40, 3) := by decide +kernel
theorem dX9_read_191 : decode cX9_read 191 = .ok (.iload 9, 2) := by decide +kernel
theorem dX9_read_193 : decode cX9_read 193 = .ok (.iconst 1, 1) := by decide +kernel
theorem dX9_read_194 : decode cX9_read 194 = .ok (.iadd, 1) := by decide +kernel
theorem dX9_read_195 : decode cX9_read 195 = .ok (.iaload, 1) := by decide +kernel
theorem dX9_read_196 : decode cX9_read 196 = .ok (.aload_n 0, 1) := by decide +kernel
theorem dX9_read_197 : decode cX9_read 197 = .ok (.getfield 40, 3) := by decide +kernel
theorem dX9_read_200 : decode cX9_read 200 = .ok (.iload 9, 2) := by decide +kernel
theorem dX9_read_202 : decode cX9_read 202 = .ok (.iconst 2, 1) := by decide +kernel
theorem dX9_read_203 : decode cX9_read 203 = .ok (.iadd, 1) := by decide +kernel
theorem dX9_read_204 : decode cX9_read 204 = .ok (.iaload, 1) := by decide +kernel
theorem dX9_read_205 : decode cX9_read 205 = .ok (.iconst 1, 1) := by decide +kernel
theorem dX9_read_206 : decode cX9_read 206 = .ok (.if_icmp .ne 7, 3) := by decide +kernel
theorem dX9_read_209 : decode cX9_read 209 = .ok (.iconst 1, 1) := by decide +kernel
theorem dX9_read_210 : decode cX9_read 210 = .ok (.goto 4, 3) := by decide +kernel
theorem dX9_read_213 : decode cX9_read 213 = .ok (.iconst 0, 1) := by decide +kernel
theorem dX9_read_214 : decode cX9_read 214 = .ok (.invokevirtual 331, 3) := by decide +kernel
theorem dX9_read_217 : decode cX9_read 217 = .ok (.ifCond .ge 18, 3) := by decide +kernel
theorem dX9_read_220 : decode cX9_read 220 = .ok (.aload_n 0, 1) := by decide +kernel
theorem dX9_read_221 : decode cX9_read 221 = .ok (.getfield 7, 3) := by decide +kernel
theorem dX9_read_224 : decode cX9_read 224 = .ok (.bipush 71, 2) := by decide +kernel
theorem dX9_read_226 : decode cX9_read 226 = .ok (.iload 5, 2) := by decide +kernel
theorem dX9_read_228 : decode cX9_read 228 = .ok (.iastore, 1) := by decide +kernel
theorem dX9_read_229 : decode cX9_read 229 = .ok (.bipush (-20), 2) := by decide +kernel
theorem dX9_read_231 : decode cX9_read 231 = .ok (.iload 8, 2) := by decide +kernel
theorem dX9_read_233 : decode cX9_read 233 = .ok (.isub, 1) := by decide +kernel
theorem dX9_read_234 : decode cX9_read 234 = .ok (.ireturn, 1) := by decide +kernel
theorem dX9_read_235 : decode cX9_read 235 = .ok (.iinc 7 1, 3) := by decide +kernel
theorem dX9_read_238 : decode cX9_read 238 = .ok (.iinc 8 1, 3) := by decide +kernel
theorem dX9_read_241 : decode cX9_read 241 = .ok (.goto (-200), 3) := by decide +kernel
theorem dX9_read_244 : decode cX9_read 244 = .ok (.aload_n 0, 1) := by decide +kernel
theorem dX9_read_245 : decode cX9_read 245 = .ok (.iload 6, 2) := by decide +kernel
theorem dX9_read_247 : decode cX9_read 247 = .ok (.putfield 335, 3) := by decide +kernel
theorem dX9_read_250 : decode cX9_read 250 = .ok (.iload 7, 2) := by decide +kernel
theorem dX9_read_252 : decode cX9_read 252 = .ok (.ireturn, 1) := by decide +kernel
theorem dX9_torn_0 : decode cX9_torn 0 = .ok (.aload_n 0, 1) := by decide +kernel
theorem dX9_torn_1 : decode cX9_torn 1 = .ok (.getfield 335, 3) := by decide +kernel
theorem dX9_torn_4 : decode cX9_torn 4 = .ok (.ireturn, 1) := by decide +kernel
theorem dX9_count_0 : decode cX9_count 0 = .ok (.iload_n 1, 1) := by decide +kernel
theorem dX9_count_1 : decode cX9_count 1 = .ok (.tableswitch 99 0 4 #[35, 43, 51, 71, 76], 35) := by decide +kernel
theorem dX9_count_36 : decode cX9_count 36 = .ok (.aload_n 0, 1) := by decide +kernel
theorem dX9_count_37 : decode cX9_count 37 = .ok (.invokevirtual 297, 3) := by decide +kernel
theorem dX9_count_40 : decode cX9_count 40 = .ok (.invokestatic 300, 3) := by decide +kernel
theorem dX9_count_43 : decode cX9_count 43 = .ok (.ireturn, 1) := by decide +kernel
theorem dX9_count_44 : decode cX9_count 44 = .ok (.aload_n 0, 1) := by decide +kernel
theorem dX9_count_45 : decode cX9_count 45 = .ok (.getfield 7, 3) := by decide +kernel
theorem dX9_count_48 : decode cX9_count 48 = .ok (.bipush 71, 2) := by decide +kernel
theorem dX9_count_50 : decode cX9_count 50 = .ok (.iaload, 1) := by decide +kernel
theorem dX9_count_51 : decode cX9_count 51 = .ok (.ireturn, 1) := by decide +kernel
theorem dX9_count_52 : decode cX9_count 52 = .ok (.aload_n 0, 1) := by decide +kernel
theorem dX9_count_53 : decode cX9_count 53 = .ok (.getfield 13, 3) := by decide +kernel
theorem dX9_count_56 : decode cX9_count 56 = .ok (.iconst 0, 1) := by decide +kernel
theorem dX9_count_57 : decode cX9_count 57 = .ok (.baload, 1) := by decide +kernel
theorem dX9_count_58 : decode cX9_count 58 = .ok (.invokestatic 173, 3) := by decide +kernel
theorem dX9_count_61 : decode cX9_count 61 = .ok (.aload_n 0, 1) := by decide +kernel
theorem dX9_count_62 : decode cX9_count 62 = .ok (.getfield 13, 3) := by decide +kernel
theorem dX9_count_65 : decode cX9_count 65 = .ok (.iconst 1, 1) := by decide +kernel
theorem dX9_count_66 : decode cX9_count 66 = .ok (.baload, 1) := by decide +kernel
theorem dX9_count_67 : decode cX9_count 67 = .ok (.invokestatic 173, 3) := by decide +kernel
theorem dX9_count_70 : decode cX9_count 70 = .ok (.iadd, 1) := by decide +kernel
theorem dX9_count_71 : decode cX9_count 71 = .ok (.ireturn, 1) := by decide +kernel
theorem dX9_count_72 : decode cX9_count 72 = .ok (.aload_n 0, 1) := by decide +kernel
theorem dX9_count_73 : decode cX9_count 73 = .ok (.getfield 66, 3) := by decide +kernel
theorem dX9_count_76 : decode cX9_count 76 = .ok (.ireturn, 1) := by decide +kernel
theorem dX9_count_77 : decode cX9_count 77 = .ok (.aload_n 0, 1) := by decide +kernel
theorem dX9_count_78 : decode cX9_count 78 = .ok (.getfield 34, 3) := by decide +kernel
theorem dX9_count_81 : decode cX9_count 81 = .ok (.iconst 0, 1) := by decide +kernel
theorem dX9_count_82 : decode cX9_count 82 = .ok (.iaload, 1) := by decide +kernel
theorem dX9_count_83 : decode cX9_count 83 = .ok (.bipush (-4), 2) := by decide +kernel
theorem dX9_count_85 : decode cX9_count 85 = .ok (.if_icmp .ne 8, 3) := by decide +kernel
theorem dX9_count_88 : decode cX9_count 88 = .ok (.bipush (-4), 2) := by decide +kernel
theorem dX9_count_90 : decode cX9_count 90 = .ok (.goto 9, 3) := by decide +kernel
theorem dX9_count_93 : decode cX9_count 93 = .ok (.aload_n 0, 1) := by decide +kernel
theorem dX9_count_94 : decode cX9_count 94 = .ok (.getfield 37, 3) := by decide +kernel
theorem dX9_count_97 : decode cX9_count 97 = .ok (.iconst 0, 1) := by decide +kernel
theorem dX9_count_98 : decode cX9_count 98 = .ok (.iaload, 1) := by decide +kernel
theorem dX9_count_99 : decode cX9_count 99 = .ok (.ireturn, 1) := by decide +kernel
theorem dX9_count_100 : decode cX9_count 100 = .ok (.iconst (-1), 1) := by decide +kernel
theorem dX9_count_101 : decode cX9_count 101 = .ok (.ireturn, 1) := by decide +kernel
theorem dJ13_bitCount_95d88_0 : decode cJ13_bitCount_95d88 0 = .ok (.lload_n 0, 1) := by decide +kernel
theorem dJ13_bitCount_95d88_1 : decode cJ13_bitCount_95d88 1 = .ok (.lload_n 0, 1) := by decide +kernel
theorem dJ13_bitCount_95d88_2 : decode cJ13_bitCount_95d88 2 = .ok (.iconst 1, 1) := by decide +kernel
theorem dJ13_bitCount_95d88_3 : decode cJ13_bitCount_95d88 3 = .ok (.lushr, 1) := by decide +kernel
theorem dJ13_bitCount_95d88_4 : decode cJ13_bitCount_95d88 4 = .ok (.ldc2_w 314, 3) := by decide +kernel
theorem dJ13_bitCount_95d88_7 : decode cJ13_bitCount_95d88 7 = .ok (.land, 1) := by decide +kernel
theorem dJ13_bitCount_95d88_8 : decode cJ13_bitCount_95d88 8 = .ok (.lsub, 1) := by decide +kernel
theorem dJ13_bitCount_95d88_9 : decode cJ13_bitCount_95d88 9 = .ok (.lstore_n 0, 1) := by decide +kernel
theorem dJ13_bitCount_95d88_10 : decode cJ13_bitCount_95d88 10 = .ok (.lload_n 0, 1) := by decide +kernel
theorem dJ13_bitCount_95d88_11 : decode cJ13_bitCount_95d88 11 = .ok (.ldc2_w 316, 3) := by decide +kernel
theorem dJ13_bitCount_95d88_14 : decode cJ13_bitCount_95d88 14 = .ok (.land, 1) := by decide +kernel
theorem dJ13_bitCount_95d88_15 : decode cJ13_bitCount_95d88 15 = .ok (.lload_n 0, 1) := by decide +kernel
theorem dJ13_bitCount_95d88_16 : decode cJ13_bitCount_95d88 16 = .ok (.iconst 2, 1) := by decide +kernel
theorem dJ13_bitCount_95d88_17 : decode cJ13_bitCount_95d88 17 = .ok (.lushr, 1) := by decide +kernel
theorem dJ13_bitCount_95d88_18 : decode cJ13_bitCount_95d88 18 = .ok (.ldc2_w 316, 3) := by decide +kernel
theorem dJ13_bitCount_95d88_21 : decode cJ13_bitCount_95d88 21 = .ok (.land, 1) := by decide +kernel
theorem dJ13_bitCount_95d88_22 : decode cJ13_bitCount_95d88 22 = .ok (.ladd, 1) := by decide +kernel
theorem dJ13_bitCount_95d88_23 : decode cJ13_bitCount_95d88 23 = .ok (.lstore_n 0, 1) := by decide +kernel
theorem dJ13_bitCount_95d88_24 : decode cJ13_bitCount_95d88 24 = .ok (.lload_n 0, 1) := by decide +kernel
theorem dJ13_bitCount_95d88_25 : decode cJ13_bitCount_95d88 25 = .ok (.lload_n 0, 1) := by decide +kernel
theorem dJ13_bitCount_95d88_26 : decode cJ13_bitCount_95d88 26 = .ok (.iconst 4, 1) := by decide +kernel
theorem dJ13_bitCount_95d88_27 : decode cJ13_bitCount_95d88 27 = .ok (.lushr, 1) := by decide +kernel
theorem dJ13_bitCount_95d88_28 : decode cJ13_bitCount_95d88 28 = .ok (.ladd, 1) := by decide +kernel
theorem dJ13_bitCount_95d88_29 : decode cJ13_bitCount_95d88 29 = .ok (.ldc2_w 318, 3) := by decide +kernel
theorem dJ13_bitCount_95d88_32 : decode cJ13_bitCount_95d88 32 = .ok (.land, 1) := by decide +kernel
theorem dJ13_bitCount_95d88_33 : decode cJ13_bitCount_95d88 33 = .ok (.lstore_n 0, 1) := by decide +kernel
theorem dJ13_bitCount_95d88_34 : decode cJ13_bitCount_95d88 34 = .ok (.lload_n 0, 1) := by decide +kernel
theorem dJ13_bitCount_95d88_35 : decode cJ13_bitCount_95d88 35 = .ok (.lload_n 0, 1) := by decide +kernel
theorem dJ13_bitCount_95d88_36 : decode cJ13_bitCount_95d88 36 = .ok (.bipush 8, 2) := by decide +kernel
theorem dJ13_bitCount_95d88_38 : decode cJ13_bitCount_95d88 38 = .ok (.lushr, 1) := by decide +kernel
theorem dJ13_bitCount_95d88_39 : decode cJ13_bitCount_95d88 39 = .ok (.ladd, 1) := by decide +kernel
theorem dJ13_bitCount_95d88_40 : decode cJ13_bitCount_95d88 40 = .ok (.lstore_n 0, 1) := by decide +kernel
theorem dJ13_bitCount_95d88_41 : decode cJ13_bitCount_95d88 41 = .ok (.lload_n 0, 1) := by decide +kernel
theorem dJ13_bitCount_95d88_42 : decode cJ13_bitCount_95d88 42 = .ok (.lload_n 0, 1) := by decide +kernel
theorem dJ13_bitCount_95d88_43 : decode cJ13_bitCount_95d88 43 = .ok (.bipush 16, 2) := by decide +kernel
theorem dJ13_bitCount_95d88_45 : decode cJ13_bitCount_95d88 45 = .ok (.lushr, 1) := by decide +kernel
theorem dJ13_bitCount_95d88_46 : decode cJ13_bitCount_95d88 46 = .ok (.ladd, 1) := by decide +kernel
theorem dJ13_bitCount_95d88_47 : decode cJ13_bitCount_95d88 47 = .ok (.lstore_n 0, 1) := by decide +kernel
end
section
theorem dJ13_bitCount_95d88_48 : decode cJ13_bitCount_95d88 48 = .ok (.lload_n 0, 1) := by decide +kernel
theorem dJ13_bitCount_95d88_49 : decode cJ13_bitCount_95d88 49 = .ok (.lload_n 0, 1) := by decide +kernel
theorem dJ13_bitCount_95d88_50 : decode cJ13_bitCount_95d88 50 = .ok (.bipush 32, 2) := by decide +kernel
theorem dJ13_bitCount_95d88_52 : decode cJ13_bitCount_95d88 52 = .ok (.lushr, 1) := by decide +kernel
theorem dJ13_bitCount_95d88_53 : decode cJ13_bitCount_95d88 53 = .ok (.ladd, 1) := by decide +kernel
theorem dJ13_bitCount_95d88_54 : decode cJ13_bitCount_95d88 54 = .ok (.lstore_n 0, 1) := by decide +kernel
theorem dJ13_bitCount_95d88_55 : decode cJ13_bitCount_95d88 55 = .ok (.lload_n 0, 1) := by decide +kernel
theorem dJ13_bitCount_95d88_56 : decode cJ13_bitCount_95d88 56 = .ok (.l2i, 1) := by decide +kernel
theorem dJ13_bitCount_95d88_57 : decode cJ13_bitCount_95d88 57 = .ok (.bipush 127, 2) := by decide +kernel
theorem dJ13_bitCount_95d88_59 : decode cJ13_bitCount_95d88 59 = .ok (.iand, 1) := by decide +kernel
theorem dJ13_bitCount_95d88_60 : decode cJ13_bitCount_95d88 60 = .ok (.ireturn, 1) := by decide +kernel
theorem dJ9_max_7cf53_0 : decode cJ9_max_7cf53 0 = .ok (.iload_n 0, 1) := by decide +kernel
theorem dJ9_max_7cf53_1 : decode cJ9_max_7cf53 1 = .ok (.iload_n 1, 1) := by decide +kernel
theorem dJ9_max_7cf53_2 : decode cJ9_max_7cf53 2 = .ok (.if_icmp .lt 7, 3) := by decide +kernel
theorem dJ9_max_7cf53_5 : decode cJ9_max_7cf53 5 = .ok (.iload_n 0, 1) := by decide +kernel
theorem dJ9_max_7cf53_6 : decode cJ9_max_7cf53 6 = .ok (.goto 4, 3) := by decide +kernel
theorem dJ9_max_7cf53_9 : decode cJ9_max_7cf53 9 = .ok (.iload_n 1, 1) := by decide +kernel
theorem dJ9_max_7cf53_10 : decode cJ9_max_7cf53 10 = .ok (.ireturn, 1) := by decide +kernel
theorem dJ9_max_f86c9_0 : decode cJ9_max_f86c9 0 = .ok (.lload_n 0, 1) := by decide +kernel
theorem dJ9_max_f86c9_1 : decode cJ9_max_f86c9 1 = .ok (.lload_n 2, 1) := by decide +kernel
theorem dJ9_max_f86c9_2 : decode cJ9_max_f86c9 2 = .ok (.lcmp, 1) := by decide +kernel
theorem dJ9_max_f86c9_3 : decode cJ9_max_f86c9 3 = .ok (.ifCond .lt 7, 3) := by decide +kernel
theorem dJ9_max_f86c9_6 : decode cJ9_max_f86c9 6 = .ok (.lload_n 0, 1) := by decide +kernel
theorem dJ9_max_f86c9_7 : decode cJ9_max_f86c9 7 = .ok (.goto 4, 3) := by decide +kernel
theorem dJ9_max_f86c9_10 : decode cJ9_max_f86c9 10 = .ok (.lload_n 2, 1) := by decide +kernel
theorem dJ9_max_f86c9_11 : decode cJ9_max_f86c9 11 = .ok (.lreturn, 1) := by decide +kernel
theorem dJ9_min_7cf53_0 : decode cJ9_min_7cf53 0 = .ok (.iload_n 0, 1) := by decide +kernel
theorem dJ9_min_7cf53_1 : decode cJ9_min_7cf53 1 = .ok (.iload_n 1, 1) := by decide +kernel
theorem dJ9_min_7cf53_2 : decode cJ9_min_7cf53 2 = .ok (.if_icmp .gt 7, 3) := by decide +kernel
theorem dJ9_min_7cf53_5 : decode cJ9_min_7cf53 5 = .ok (.iload_n 0, 1) := by decide +kernel
theorem dJ9_min_7cf53_6 : decode cJ9_min_7cf53 6 = .ok (.goto 4, 3) := by decide +kernel
theorem dJ9_min_7cf53_9 : decode cJ9_min_7cf53 9 = .ok (.iload_n 1, 1) := by decide +kernel
theorem dJ9_min_7cf53_10 : decode cJ9_min_7cf53 10 = .ok (.ireturn, 1) := by decide +kernel
theorem dJ0_length_8abf5_0 : decode cJ0_length_8abf5 0 = .ok (.aload_n 0, 1) := by decide +kernel
theorem dJ0_length_8abf5_1 : decode cJ0_length_8abf5 1 = .ok (.getfield 9, 3) := by decide +kernel
theorem dJ0_length_8abf5_4 : decode cJ0_length_8abf5 4 = .ok (.arraylength, 1) := by decide +kernel
theorem dJ0_length_8abf5_5 : decode cJ0_length_8abf5 5 = .ok (.aload_n 0, 1) := by decide +kernel
theorem dJ0_length_8abf5_6 : decode cJ0_length_8abf5 6 = .ok (.invokevirtual 335, 3) := by decide +kernel
theorem dJ0_length_8abf5_9 : decode cJ0_length_8abf5 9 = .ok (.ishr, 1) := by decide +kernel
theorem dJ0_length_8abf5_10 : decode cJ0_length_8abf5 10 = .ok (.ireturn, 1) := by decide +kernel
theorem dJ0_charAt_5068e_0 : decode cJ0_charAt_5068e 0 = .ok (.aload_n 0, 1) := by decide +kernel
theorem dJ0_charAt_5068e_1 : decode cJ0_charAt_5068e 1 = .ok (.invokevirtual 492, 3) := by decide +kernel
theorem dJ0_charAt_5068e_4 : decode cJ0_charAt_5068e 4 = .ok (.ifCond .eq 12, 3) := by decide +kernel
theorem dJ0_charAt_5068e_7 : decode cJ0_charAt_5068e 7 = .ok (.aload_n 0, 1) := by decide +kernel
theorem dJ0_charAt_5068e_8 : decode cJ0_charAt_5068e 8 = .ok (.getfield 9, 3) := by decide +kernel
theorem dJ0_charAt_5068e_11 : decode cJ0_charAt_5068e 11 = .ok (.iload_n 1, 1) := by decide +kernel
theorem dJ0_charAt_5068e_12 : decode cJ0_charAt_5068e 12 = .ok (.invokestatic 495, 3) := by decide +kernel
theorem dJ0_charAt_5068e_15 : decode cJ0_charAt_5068e 15 = .ok (.ireturn, 1) := by decide +kernel
theorem dJ0_charAt_5068e_16 : decode cJ0_charAt_5068e 16 = .ok (.aload_n 0, 1) := by decide +kernel
theorem dJ0_charAt_5068e_17 : decode cJ0_charAt_5068e 17 = .ok (.getfield 9, 3) := by decide +kernel
theorem dJ0_charAt_5068e_20 : decode cJ0_charAt_5068e 20 = .ok (.iload_n 1, 1) := by decide +kernel
theorem dJ0_charAt_5068e_21 : decode cJ0_charAt_5068e 21 = .ok (.invokestatic 498, 3) := by decide +kernel
theorem dJ0_charAt_5068e_24 : decode cJ0_charAt_5068e 24 = .ok (.ireturn, 1) := by decide +kernel
theorem dJ0_coder_7d493_0 : decode cJ0_coder_7d493 0 = .ok (.getstatic 38, 3) := by decide +kernel
theorem dJ0_coder_7d493_3 : decode cJ0_coder_7d493 3 = .ok (.ifCond .eq 10, 3) := by decide +kernel
theorem dJ0_coder_7d493_6 : decode cJ0_coder_7d493 6 = .ok (.aload_n 0, 1) := by decide +kernel
theorem dJ0_coder_7d493_7 : decode cJ0_coder_7d493 7 = .ok (.getfield 15, 3) := by decide +kernel
theorem dJ0_coder_7d493_10 : decode cJ0_coder_7d493 10 = .ok (.goto 4, 3) := by decide +kernel
theorem dJ0_coder_7d493_13 : decode cJ0_coder_7d493 13 = .ok (.iconst 1, 1) := by decide +kernel
theorem dJ0_coder_7d493_14 : decode cJ0_coder_7d493 14 = .ok (.ireturn, 1) := by decide +kernel
theorem dJ0_isLatin1_aae02_0 : decode cJ0_isLatin1_aae02 0 = .ok (.getstatic 38, 3) := by decide +kernel
theorem dJ0_isLatin1_aae02_3 : decode cJ0_isLatin1_aae02 3 = .ok (.ifCond .eq 14, 3) := by decide +kernel
theorem dJ0_isLatin1_aae02_6 : decode cJ0_isLatin1_aae02 6 = .ok (.aload_n 0, 1) := by decide +kernel
theorem dJ0_isLatin1_aae02_7 : decode cJ0_isLatin1_aae02 7 = .ok (.getfield 15, 3) := by decide +kernel
theorem dJ0_isLatin1_aae02_10 : decode cJ0_isLatin1_aae02 10 = .ok (.ifCond .ne 7, 3) := by decide +kernel
theorem dJ0_isLatin1_aae02_13 : decode cJ0_isLatin1_aae02 13 = .ok (.iconst 1, 1) := by decide +kernel
theorem dJ0_isLatin1_aae02_14 : decode cJ0_isLatin1_aae02 14 = .ok (.goto 4, 3) := by decide +kernel
theorem dJ0_isLatin1_aae02_17 : decode cJ0_isLatin1_aae02 17 = .ok (.iconst 0, 1) := by decide +kernel
theorem dJ0_isLatin1_aae02_18 : decode cJ0_isLatin1_aae02 18 = .ok (.ireturn, 1) := by decide +kernel
theorem dJ0_checkIndex_df160_0 : decode cJ0_checkIndex_df160 0 = .ok (.iload_n 0, 1) := by decide +kernel
theorem dJ0_checkIndex_df160_1 : decode cJ0_checkIndex_df160 1 = .ok (.iload_n 1, 1) := by decide +kernel
theorem dJ0_checkIndex_df160_2 : decode cJ0_checkIndex_df160 2 = .ok (.getstatic 1053, 3) := by decide +kernel
theorem dJ0_checkIndex_df160_5 : decode cJ0_checkIndex_df160 5 = .ok (.invokestatic 1059, 3) := by decide +kernel
theorem dJ0_checkIndex_df160_8 : decode cJ0_checkIndex_df160 8 = .ok (.pop, 1) := by decide +kernel
theorem dJ0_checkIndex_df160_9 : decode cJ0_checkIndex_df160 9 = .ok (.return_, 1) := by decide +kernel
theorem dJ1_charAt_3b067_0 : decode cJ1_charAt_3b067 0 = .ok (.iload_n 1, 1) := by decide +kernel
theorem dJ1_charAt_3b067_1 : decode cJ1_charAt_3b067 1 = .ok (.aload_n 0, 1) := by decide +kernel
theorem dJ1_charAt_3b067_2 : decode cJ1_charAt_3b067 2 = .ok (.arraylength, 1) := by decide +kernel
theorem dJ1_charAt_3b067_3 : decode cJ1_charAt_3b067 3 = .ok (.invokestatic 9, 3) := by decide +kernel
theorem dJ1_charAt_3b067_6 : decode cJ1_charAt_3b067 6 = .ok (.aload_n 0, 1) := by decide +kernel
theorem dJ1_charAt_3b067_7 : decode cJ1_charAt_3b067 7 = .ok (.iload_n 1, 1) := by decide +kernel
theorem dJ1_charAt_3b067_8 : decode cJ1_charAt_3b067 8 = .ok (.baload, 1) := by decide +kernel
theorem dJ1_charAt_3b067_9 : decode cJ1_charAt_3b067 9 = .ok (.sipush 255, 3) := by decide +kernel
theorem dJ1_charAt_3b067_12 : decode cJ1_charAt_3b067 12 = .ok (.iand, 1) := by decide +kernel
theorem dJ1_charAt_3b067_13 : decode cJ1_charAt_3b067 13 = .ok (.i2c, 1) := by decide +kernel
theorem dJ1_charAt_3b067_14 : decode cJ1_charAt_3b067 14 = .ok (.ireturn, 1) := by decide +kernel
theorem dJ2_getChar_3b067_0 : decode cJ2_getChar_3b067 0 = .ok (.getstatic 44, 3) := by decide +kernel
theorem dJ2_getChar_3b067_3 : decode cJ2_getChar_3b067 3 = .ok (.ifCond .ne 25, 3) := by decide +kernel
theorem dJ2_getChar_3b067_6 : decode cJ2_getChar_3b067 6 = .ok (.iload_n 1, 1) := by decide +kernel
theorem dJ2_getChar_3b067_7 : decode cJ2_getChar_3b067 7 = .ok (.ifCond .lt 11, 3) := by decide +kernel
theorem dJ2_getChar_3b067_10 : decode cJ2_getChar_3b067 10 = .ok (.iload_n 1, 1) := by decide +kernel
theorem dJ2_getChar_3b067_11 : decode cJ2_getChar_3b067 11 = .ok (.aload_n 0, 1) := by decide +kernel
theorem dJ2_getChar_3b067_12 : decode cJ2_getChar_3b067 12 = .ok (.invokestatic 48, 3) := by decide +kernel
theorem dJ2_getChar_3b067_15 : decode cJ2_getChar_3b067 15 = .ok (.if_icmp .lt 13, 3) := by decide +kernel
theorem dJ2_getChar_3b067_18 : decode cJ2_getChar_3b067 18 = .ok (.new 52, 3) := by decide +kernel
theorem dJ2_getChar_3b067_21 : decode cJ2_getChar_3b067 21 = .ok (.dup, 1) := by decide +kernel
theorem dJ2_getChar_3b067_22 : decode cJ2_getChar_3b067 22 = .ok (.ldc 54, 2) := by decide +kernel
theorem dJ2_getChar_3b067_24 : decode cJ2_getChar_3b067 24 = .ok (.invokespecial 56, 3) := by decide +kernel
theorem dJ2_getChar_3b067_27 : decode cJ2_getChar_3b067 27 = .ok (.athrow, 1) := by decide +kernel
theorem dJ2_getChar_3b067_28 : decode cJ2_getChar_3b067 28 = .ok (.iload_n 1, 1) := by decide +kernel
theorem dJ2_getChar_3b067_29 : decode cJ2_getChar_3b067 29 = .ok (.iconst 1, 1) := by decide +kernel
theorem dJ2_getChar_3b067_30 : decode cJ2_getChar_3b067 30 = .ok (.ishl, 1) := by decide +kernel
theorem dJ2_getChar_3b067_31 : decode cJ2_getChar_3b067 31 = .ok (.istore_n 1, 1) := by decide +kernel
theorem dJ2_getChar_3b067_32 : decode cJ2_getChar_3b067 32 = .ok (.aload_n 0, 1) := by decide +kernel
theorem dJ2_getChar_3b067_33 : decode cJ2_getChar_3b067 33 = .ok (.iload_n 1, 1) := by decide +kernel
theorem dJ2_getChar_3b067_34 : decode cJ2_getChar_3b067 34 = .ok (.iinc 1 1, 3) := by decide +kernel
theorem dJ2_getChar_3b067_37 : decode cJ2_getChar_3b067 37 = .ok (.baload, 1) := by decide +kernel
theorem dJ2_getChar_3b067_38 : decode cJ2_getChar_3b067 38 = .ok (.sipush 255, 3) := by decide +kernel
theorem dJ2_getChar_3b067_41 : decode cJ2_getChar_3b067 41 = .ok (.iand, 1) := by decide +kernel
theorem dJ2_getChar_3b067_42 : decode cJ2_getChar_3b067 42 = .ok (.getstatic 59, 3) := by decide +kernel
theorem dJ2_getChar_3b067_45 : decode cJ2_getChar_3b067 45 = .ok (.ishl, 1) := by decide +kernel
theorem dJ2_getChar_3b067_46 : decode cJ2_getChar_3b067 46 = .ok (.aload_n 0, 1) := by decide +kernel
theorem dJ2_getChar_3b067_47 : decode cJ2_getChar_3b067 47 = .ok (.iload_n 1, 1) := by decide +kernel
theorem dJ2_getChar_3b067_48 : decode cJ2_getChar_3b067 48 = .ok (.baload, 1) := by decide +kernel
theorem dJ2_getChar_3b067_49 : decode cJ2_getChar_3b067 49 = .ok (.sipush 255, 3) := by decide +kernel
theorem dJ2_getChar_3b067_52 : decode cJ2_getChar_3b067 52 = .ok (.iand, 1) := by decide +kernel
theorem dJ2_getChar_3b067_53 : decode cJ2_getChar_3b067 53 = .ok (.getstatic 63, 3) := by decide +kernel
theorem dJ2_getChar_3b067_56 : decode cJ2_getChar_3b067 56 = .ok (.ishl, 1) := by decide +kernel
theorem dJ2_getChar_3b067_57 : decode cJ2_getChar_3b067 57 = .ok (.ior, 1) := by decide +kernel
theorem dJ2_getChar_3b067_58 : decode cJ2_getChar_3b067 58 = .ok (.i2c, 1) := by decide +kernel
theorem dJ2_getChar_3b067_59 : decode cJ2_getChar_3b067 59 = .ok (.ireturn, 1) := by decide +kernel
theorem dJ2_length_9d52b_0 : decode cJ2_length_9d52b 0 = .ok (.aload_n 0, 1) := by decide +kernel
theorem dJ2_length_9d52b_1 : decode cJ2_length_9d52b 1 = .ok (.arraylength, 1) := by decide +kernel
theorem dJ2_length_9d52b_2 : decode cJ2_length_9d52b 2 = .ok (.iconst 1, 1) := by decide +kernel
theorem dJ2_length_9d52b_3 : decode cJ2_length_9d52b 3 = .ok (.ishr, 1) := by decide +kernel
theorem dJ2_length_9d52b_4 : decode cJ2_length_9d52b 4 = .ok (.ireturn, 1) := by decide +kernel
theorem dJ2_charAt_3b067_0 : decode cJ2_charAt_3b067 0 = .ok (.iload_n 1, 1) := by decide +kernel
theorem dJ2_charAt_3b067_1 : decode cJ2_charAt_3b067 1 = .ok (.aload_n 0, 1) := by decide +kernel
theorem dJ2_charAt_3b067_2 : decode cJ2_charAt_3b067 2 = .ok (.invokestatic 67, 3) := by decide +kernel
theorem dJ2_charAt_3b067_5 : decode cJ2_charAt_3b067 5 = .ok (.aload_n 0, 1) := by decide +kernel
theorem dJ2_charAt_3b067_6 : decode cJ2_charAt_3b067 6 = .ok (.iload_n 1, 1) := by decide +kernel
theorem dJ2_charAt_3b067_7 : decode cJ2_charAt_3b067 7 = .ok (.invokestatic 71, 3) := by decide +kernel
theorem dJ2_charAt_3b067_10 : decode cJ2_charAt_3b067 10 = .ok (.ireturn, 1) := by decide +kernel
theorem dJ2_checkIndex_2214a_0 : decode cJ2_checkIndex_2214a 0 = .ok (.iload_n 0, 1) := by decide +kernel
theorem dJ2_checkIndex_2214a_1 : decode cJ2_checkIndex_2214a 1 = .ok (.aload_n 1, 1) := by decide +kernel
theorem dJ2_checkIndex_2214a_2 : decode cJ2_checkIndex_2214a 2 = .ok (.invokestatic 48, 3) := by decide +kernel
theorem dJ2_checkIndex_2214a_5 : decode cJ2_checkIndex_2214a 5 = .ok (.invokestatic 414, 3) := by decide +kernel
theorem dJ2_checkIndex_2214a_8 : decode cJ2_checkIndex_2214a 8 = .ok (.return_, 1) := by decide +kernel
theorem dJ3_checkIndex_8e157_0 : decode cJ3_checkIndex_8e157 0 = .ok (.iload_n 0, 1) := by decide +kernel
theorem dJ3_checkIndex_8e157_1 : decode cJ3_checkIndex_8e157 1 = .ok (.ifCond .lt 8, 3) := by decide +kernel
theorem dJ3_checkIndex_8e157_4 : decode cJ3_checkIndex_8e157 4 = .ok (.iload_n 0, 1) := by decide +kernel
theorem dJ3_checkIndex_8e157_5 : decode cJ3_checkIndex_8e157 5 = .ok (.iload_n 1, 1) := by decide +kernel
theorem dJ3_checkIndex_8e157_6 : decode cJ3_checkIndex_8e157 6 = .ok (.if_icmp .lt 10, 3) := by decide +kernel
theorem dJ3_checkIndex_8e157_9 : decode cJ3_checkIndex_8e157 9 = .ok (.aload_n 2, 1) := by decide +kernel
theorem dJ3_checkIndex_8e157_10 : decode cJ3_checkIndex_8e157 10 = .ok (.iload_n 0, 1) := by decide +kernel
theorem dJ3_checkIndex_8e157_11 : decode cJ3_checkIndex_8e157 11 = .ok (.iload_n 1, 1) := by decide +kernel
theorem dJ3_checkIndex_8e157_12 : decode cJ3_checkIndex_8e157 12 = .ok (.invokestatic 95, 3) := by decide +kernel
theorem dJ3_checkIndex_8e157_15 : decode cJ3_checkIndex_8e157 15 = .ok (.athrow, 1) := by decide +kernel
theorem dJ3_checkIndex_8e157_16 : decode cJ3_checkIndex_8e157 16 = .ok (.iload_n 0, 1) := by decide +kernel
theorem dJ3_checkIndex_8e157_17 : decode cJ3_checkIndex_8e157 17 = .ok (.ireturn, 1) := by decide +kernel
theorem dL_law_0 : decode cL_law 0 = .ok (.new 7, 3) := by decide +kernel
theorem dL_law_3 : decode cL_law 3 = .ok (.dup, 1) := by decide +kernel
theorem dL_law_4 : decode cL_law 4 = .ok (.invokespecial 9, 3) := by decide +kernel
theorem dL_law_7 : decode cL_law 7 = .ok (.astore_n 1, 1) := by decide +kernel
theorem dL_law_8 : decode cL_law 8 = .ok (.new 10, 3) := by decide +kernel
theorem dL_law_11 : decode cL_law 11 = .ok (.dup, 1) := by decide +kernel
theorem dL_law_12 : decode cL_law 12 = .ok (.invokespecial 12, 3) := by decide +kernel
theorem dL_law_15 : decode cL_law 15 = .ok (.astore_n 2, 1) := by decide +kernel
theorem dL_law_16 : decode cL_law 16 = .ok (.iconst 0, 1) := by decide +kernel
theorem dL_law_17 : decode cL_law 17 = .ok (.istore_n 3, 1) := by decide +kernel
theorem dL_law_18 : decode cL_law 18 = .ok (.iload_n 3, 1) := by decide +kernel
theorem dL_law_19 : decode cL_law 19 = .ok (.aload_n 0, 1) := by decide +kernel
theorem dL_law_20 : decode cL_law 20 = .ok (.arraylength, 1) := by decide +kernel
theorem dL_law_21 : decode cL_law 21 = .ok (.bipush 7, 2) := by decide +kernel
theorem dL_law_23 : decode cL_law 23 = .ok (.isub, 1) := by decide +kernel
theorem dL_law_24 : decode cL_law 24 = .ok (.if_icmp .gt 2042, 3) := by decide +kernel
theorem dL_law_27 : decode cL_law 27 = .ok (.aload_n 0, 1) := by decide +kernel
theorem dL_law_28 : decode cL_law 28 = .ok (.iload_n 3, 1) := by decide +kernel
theorem dL_law_29 : decode cL_law 29 = .ok (.iaload, 1) := by decide +kernel
theorem dL_law_30 : decode cL_law 30 = .ok (.bipush 63, 2) := by decide +kernel
theorem dL_law_32 : decode cL_law 32 = .ok (.iand, 1) := by decide +kernel
theorem dL_law_33 : decode cL_law 33 = .ok (.tableswitch 2027 0 41 #[183, 236, 259, 272, 285, 308, 341, 374, 437, 501, 565, 669, 743, 859, 923, 947, 970, 1034, 1098, 1132, 1195, 1258, 1301, 1334, 1357, 1400, 1423, 1446, 1509, 1568, 1591, 1614, 1647, 1670, 1743, 1806, 1829, 1852, 1895, 1938, 1991, 2004], 183) := by decide +kernel
theorem dL_law_216 : decode cL_law 216 = .ok (.aload_n 1, 1) := by decide +kernel
theorem dL_law_217 : decode cL_law 217 = .ok (.aload_n 0, 1) := by decide +kernel
theorem dL_law_218 : decode cL_law 218 = .ok (.iload_n 3, 1) := by decide +kernel
theorem dL_law_219 : decode cL_law 219 = .ok (.iconst 1, 1) := by decide +kernel
theorem dL_law_220 : decode cL_law 220 = .ok (.iadd, 1) := by decide +kernel
theorem dL_law_221 : decode cL_law 221 = .ok (.iaload, 1) := by decide +kernel
theorem dL_law_222 : decode cL_law 222 = .ok (.i2l, 1) := by decide +kernel
theorem dL_law_223 : decode cL_law 223 = .ok (.bipush 32, 2) := by decide +kernel
theorem dL_law_225 : decode cL_law 225 = .ok (.lshl, 1) := by decide +kernel
theorem dL_law_226 : decode cL_law 226 = .ok (.aload_n 0, 1) := by decide +kernel
theorem dL_law_227 : decode cL_law 227 = .ok (.iload_n 3, 1) := by decide +kernel
theorem dL_law_228 : decode cL_law 228 = .ok (.iconst 2, 1) := by decide +kernel
theorem dL_law_229 : decode cL_law 229 = .ok (.iadd, 1) := by decide +kernel
theorem dL_law_230 : decode cL_law 230 = .ok (.iaload, 1) := by decide +kernel
theorem dL_law_231 : decode cL_law 231 = .ok (.i2l, 1) := by decide +kernel
theorem dL_law_232 : decode cL_law 232 = .ok (.ldc2_w 13, 3) := by decide +kernel
theorem dL_law_235 : decode cL_law 235 = .ok (.land, 1) := by decide +kernel
theorem dL_law_236 : decode cL_law 236 = .ok (.lor, 1) := by decide +kernel
theorem dL_law_237 : decode cL_law 237 = .ok (.invokevirtual 15, 3) := by decide +kernel
theorem dL_law_240 : decode cL_law 240 = .ok (.aload_n 2, 1) := by decide +kernel
theorem dL_law_241 : decode cL_law 241 = .ok (.aload_n 0, 1) := by decide +kernel
theorem dL_law_242 : decode cL_law 242 = .ok (.iload_n 3, 1) := by decide +kernel
theorem dL_law_243 : decode cL_law 243 = .ok (.iconst 1, 1) := by decide +kernel
theorem dL_law_244 : decode cL_law 244 = .ok (.iadd, 1) := by decide +kernel
theorem dL_law_245 : decode cL_law 245 = .ok (.iaload, 1) := by decide +kernel
theorem dL_law_246 : decode cL_law 246 = .ok (.i2l, 1) := by decide +kernel
theorem dL_law_247 : decode cL_law 247 = .ok (.bipush 32, 2) := by decide +kernel
theorem dL_law_249 : decode cL_law 249 = .ok (.lshl, 1) := by decide +kernel
theorem dL_law_250 : decode cL_law 250 = .ok (.aload_n 0, 1) := by decide +kernel
theorem dL_law_251 : decode cL_law 251 = .ok (.iload_n 3, 1) := by decide +kernel
theorem dL_law_252 : decode cL_law 252 = .ok (.iconst 2, 1) := by decide +kernel
theorem dL_law_253 : decode cL_law 253 = .ok (.iadd, 1) := by decide +kernel
theorem dL_law_254 : decode cL_law 254 = .ok (.iaload, 1) := by decide +kernel
theorem dL_law_255 : decode cL_law 255 = .ok (.i2l, 1) := by decide +kernel
theorem dL_law_256 : decode cL_law 256 = .ok (.ldc2_w 13, 3) := by decide +kernel
theorem dL_law_259 : decode cL_law 259 = .ok (.land, 1) := by decide +kernel
theorem dL_law_260 : decode cL_law 260 = .ok (.lor, 1) := by decide +kernel
theorem dL_law_261 : decode cL_law 261 = .ok (.invokevirtual 19, 3) := by decide +kernel
theorem dL_law_264 : decode cL_law 264 = .ok (.if_icmp .eq 1796, 3) := by decide +kernel
theorem dL_law_267 : decode cL_law 267 = .ok (.iconst 0, 1) := by decide +kernel
theorem dL_law_268 : decode cL_law 268 = .ok (.ireturn, 1) := by decide +kernel
theorem dL_law_269 : decode cL_law 269 = .ok (.aload_n 1, 1) := by decide +kernel
theorem dL_law_270 : decode cL_law 270 = .ok (.aload_n 0, 1) := by decide +kernel
theorem dL_law_271 : decode cL_law 271 = .ok (.iload_n 3, 1) := by decide +kernel
theorem dL_law_272 : decode cL_law 272 = .ok (.iconst 1, 1) := by decide +kernel
theorem dL_law_273 : decode cL_law 273 = .ok (.iadd, 1) := by decide +kernel
theorem dL_law_274 : decode cL_law 274 = .ok (.iaload, 1) := by decide +kernel
theorem dL_law_275 : decode cL_law 275 = .ok (.invokevirtual 20, 3) := by decide +kernel
theorem dL_law_278 : decode cL_law 278 = .ok (.aload_n 2, 1) := by decide +kernel
theorem dL_law_279 : decode cL_law 279 = .ok (.aload_n 0, 1) := by decide +kernel
theorem dL_law_280 : decode cL_law 280 = .ok (.iload_n 3, 1) := by decide +kernel
theorem dL_law_281 : decode cL_law 281 = .ok (.iconst 1, 1) := by decide +kernel
theorem dL_law_282 : decode cL_law 282 = .ok (.iadd, 1) := by decide +kernel
theorem dL_law_283 : decode cL_law 283 = .ok (.iaload, 1) := by decide +kernel
theorem dL_law_284 : decode cL_law 284 = .ok (.invokevirtual 24, 3) := by decide +kernel
theorem dL_law_287 : decode cL_law 287 = .ok (.if_icmp .eq 1773, 3) := by decide +kernel
theorem dL_law_290 : decode cL_law 290 = .ok (.iconst 0, 1) := by decide +kernel
theorem dL_law_291 : decode cL_law 291 = .ok (.ireturn, 1) := by decide +kernel
theorem dL_law_292 : decode cL_law 292 = .ok (.aload_n 1, 1) := by decide +kernel
theorem dL_law_293 : decode cL_law 293 = .ok (.invokevirtual 25, 3) := by decide +kernel
theorem dL_law_296 : decode cL_law 296 = .ok (.aload_n 2, 1) := by decide +kernel
theorem dL_law_297 : decode cL_law 297 = .ok (.invokevirtual 29, 3) := by decide +kernel
theorem dL_law_300 : decode cL_law 300 = .ok (.if_icmp .eq 1760, 3) := by decide +kernel
theorem dL_law_303 : decode cL_law 303 = .ok (.iconst 0, 1) := by decide +kernel
theorem dL_law_304 : decode cL_law 304 = .ok (.ireturn, 1) := by decide +kernel
theorem dL_law_305 : decode cL_law 305 = .ok (.aload_n 1, 1) := by decide +kernel
theorem dL_law_306 : decode cL_law 306 = .ok (.invokevirtual 30, 3) := by decide +kernel
theorem dL_law_309 : decode cL_law 309 = .ok (.aload_n 2, 1) := by decide +kernel
theorem dL_law_310 : decode cL_law 310 = .ok (.invokevirtual 33, 3) := by decide +kernel
theorem dL_law_313 : decode cL_law 313 = .ok (.if_icmp .eq 1747, 3) := by decide +kernel
theorem dL_law_316 : decode cL_law 316 = .ok (.iconst 0, 1) := by decide +kernel
theorem dL_law_317 : decode cL_law 317 = .ok (.ireturn, 1) := by decide +kernel
theorem dL_law_318 : decode cL_law 318 = .ok (.aload_n 1, 1) := by decide +kernel
theorem dL_law_319 : decode cL_law 319 = .ok (.aload_n 0, 1) := by decide +kernel
theorem dL_law_320 : decode cL_law 320 = .ok (.iload_n 3, 1) := by decide +kernel
theorem dL_law_321 : decode cL_law 321 = .ok (.iconst 1, 1) := by decide +kernel
theorem dL_law_322 : decode cL_law 322 = .ok (.iadd, 1) := by decide +kernel
theorem dL_law_323 : decode cL_law 323 = .ok (.iaload, 1) := by decide +kernel
theorem dL_law_324 : decode cL_law 324 = .ok (.invokevirtual 34, 3) := by decide +kernel
theorem dL_law_327 : decode cL_law 327 = .ok (.aload_n 2, 1) := by decide +kernel
theorem dL_law_328 : decode cL_law 328 = .ok (.aload_n 0, 1) := by decide +kernel
theorem dL_law_329 : decode cL_law 329 = .ok (.iload_n 3, 1) := by decide +kernel
theorem dL_law_330 : decode cL_law 330 = .ok (.iconst 1, 1) := by decide +kernel
theorem dL_law_331 : decode cL_law 331 = .ok (.iadd, 1) := by decide +kernel
theorem dL_law_332 : decode cL_law 332 = .ok (.iaload, 1) := by decide +kernel
theorem dL_law_333 : decode cL_law 333 = .ok (.invokevirtual 37, 3) := by decide +kernel
theorem dL_law_336 : decode cL_law 336 = .ok (.if_icmp .eq 1724, 3) := by decide +kernel
theorem dL_law_339 : decode cL_law 339 = .ok (.iconst 0, 1) := by decide +kernel
theorem dL_law_340 : decode cL_law 340 = .ok (.ireturn, 1) := by decide +kernel
theorem dL_law_341 : decode cL_law 341 = .ok (.aload_n 1, 1) := by decide +kernel
theorem dL_law_342 : decode cL_law 342 = .ok (.aload_n 0, 1) := by decide +kernel
theorem dL_law_343 : decode cL_law 343 = .ok (.iload_n 3, 1) := by decide +kernel
theorem dL_law_344 : decode cL_law 344 = .ok (.iconst 1, 1) := by decide +kernel
theorem dL_law_345 : decode cL_law 345 = .ok (.iadd, 1) := by decide +kernel
theorem dL_law_346 : decode cL_law 346 = .ok (.iaload, 1) := by decide +kernel
theorem dL_law_347 : decode cL_law 347 = .ok (.aload_n 0, 1) := by decide +kernel
theorem dL_law_348 : decode cL_law 348 = .ok (.iload_n 3, 1) := by decide +kernel
theorem dL_law_349 : decode cL_law 349 = .ok (.iconst 2, 1) := by decide +kernel
theorem dL_law_350 : decode cL_law 350 = .ok (.iadd, 1) := by decide +kernel
theorem dL_law_351 : decode cL_law 351 = .ok (.iaload, 1) := by decide +kernel
theorem dL_law_352 : decode cL_law 352 = .ok (.invokevirtual 38, 3) := by decide +kernel
theorem dL_law_355 : decode cL_law 355 = .ok (.aload_n 2, 1) := by decide +kernel
theorem dL_law_356 : decode cL_law 356 = .ok (.aload_n 0, 1) := by decide +kernel
theorem dL_law_357 : decode cL_law 357 = .ok (.iload_n 3, 1) := by decide +kernel
theorem dL_law_358 : decode cL_law 358 = .ok (.iconst 1, 1) := by decide +kernel
theorem dL_law_359 : decode cL_law 359 = .ok (.iadd, 1) := by decide +kernel
theorem dL_law_360 : decode cL_law 360 = .ok (.iaload, 1) := by decide +kernel
theorem dL_law_361 : decode cL_law 361 = .ok (.aload_n 0, 1) := by decide +kernel
theorem dL_law_362 : decode cL_law 362 = .ok (.iload_n 3, 1) := by decide +kernel
theorem dL_law_363 : decode cL_law 363 = .ok (.iconst 2, 1) := by decide +kernel
theorem dL_law_364 : decode cL_law 364 = .ok (.iadd, 1) := by decide +kernel
theorem dL_law_365 : decode cL_law 365 = .ok (.iaload, 1) := by decide +kernel
theorem dL_law_366 : decode cL_law 366 = .ok (.invokevirtual 42, 3) := by decide +kernel
theorem dL_law_369 : decode cL_law 369 = .ok (.if_icmp .eq 1691, 3) := by decide +kernel
theorem dL_law_372 : decode cL_law 372 = .ok (.iconst 0, 1) := by decide +kernel
theorem dL_law_373 : decode cL_law 373 = .ok (.ireturn, 1) := by decide +kernel
theorem dL_law_374 : decode cL_law 374 = .ok (.aload_n 1, 1) := by decide +kernel
theorem dL_law_375 : decode cL_law 375 = .ok (.aload_n 0, 1) := by decide +kernel
theorem dL_law_376 : decode cL_law 376 = .ok (.iload_n 3, 1) := by decide +kernel
theorem dL_law_377 : decode cL_law 377 = .ok (.iconst 1, 1) := by decide +kernel
theorem dL_law_378 : decode cL_law 378 = .ok (.iadd, 1) := by decide +kernel
theorem dL_law_379 : decode cL_law 379 = .ok (.iaload, 1) := by decide +kernel
theorem dL_law_380 : decode cL_law 380 = .ok (.aload_n 0, 1) := by decide +kernel
theorem dL_law_381 : decode cL_law 381 = .ok (.iload_n 3, 1) := by decide +kernel
theorem dL_law_382 : decode cL_law 382 = .ok (.iconst 2, 1) := by decide +kernel
theorem dL_law_383 : decode cL_law 383 = .ok (.iadd, 1) := by decide +kernel
theorem dL_law_384 : decode cL_law 384 = .ok (.iaload, 1) := by decide +kernel
theorem dL_law_385 : decode cL_law 385 = .ok (.invokevirtual 43, 3) := by decide +kernel
theorem dL_law_388 : decode cL_law 388 = .ok (.aload_n 2, 1) := by decide +kernel
theorem dL_law_389 : decode cL_law 389 = .ok (.aload_n 0, 1) := by decide +kernel
theorem dL_law_390 : decode cL_law 390 = .ok (.iload_n 3, 1) := by decide +kernel
theorem dL_law_391 : decode cL_law 391 = .ok (.iconst 1, 1) := by decide +kernel
theorem dL_law_392 : decode cL_law 392 = .ok (.iadd, 1) := by decide +kernel
theorem dL_law_393 : decode cL_law 393 = .ok (.iaload, 1) := by decide +kernel
theorem dL_law_394 : decode cL_law 394 = .ok (.aload_n 0, 1) := by decide +kernel
theorem dL_law_395 : decode cL_law 395 = .ok (.iload_n 3, 1) := by decide +kernel
theorem dL_law_396 : decode cL_law 396 = .ok (.iconst 2, 1) := by decide +kernel
theorem dL_law_397 : decode cL_law 397 = .ok (.iadd, 1) := by decide +kernel
theorem dL_law_398 : decode cL_law 398 = .ok (.iaload, 1) := by decide +kernel
theorem dL_law_399 : decode cL_law 399 = .ok (.invokevirtual 46, 3) := by decide +kernel
theorem dL_law_402 : decode cL_law 402 = .ok (.if_icmp .eq 1658, 3) := by decide +kernel
theorem dL_law_405 : decode cL_law 405 = .ok (.iconst 0, 1) := by decide +kernel
theorem dL_law_406 : decode cL_law 406 = .ok (.ireturn, 1) := by decide +kernel
theorem dL_law_407 : decode cL_law 407 = .ok (.aload_n 1, 1) := by decide +kernel
theorem dL_law_408 : decode cL_law 408 = .ok (.aload_n 0, 1) := by decide +kernel
theorem dL_law_409 : decode cL_law 409 = .ok (.iload_n 3, 1) := by decide +kernel
theorem dL_law_410 : decode cL_law 410 = .ok (.iconst 1, 1) := by decide +kernel
theorem dL_law_411 : decode cL_law 411 = .ok (.iadd, 1) := by decide +kernel
theorem dL_law_412 : decode cL_law 412 = .ok (.iaload, 1) := by decide +kernel
theorem dL_law_413 : decode cL_law 413 = .ok (.aload_n 0, 1) := by decide +kernel
theorem dL_law_414 : decode cL_law 414 = .ok (.iload_n 3, 1) := by decide +kernel
theorem dL_law_415 : decode cL_law 415 = .ok (.iconst 2, 1) := by decide +kernel
theorem dL_law_416 : decode cL_law 416 = .ok (.iadd, 1) := by decide +kernel
theorem dL_law_417 : decode cL_law 417 = .ok (.iaload, 1) := by decide +kernel
theorem dL_law_418 : decode cL_law 418 = .ok (.i2l, 1) := by decide +kernel
theorem dL_law_419 : decode cL_law 419 = .ok (.bipush 32, 2) := by decide +kernel
theorem dL_law_421 : decode cL_law 421 = .ok (.lshl, 1) := by decide +kernel
theorem dL_law_422 : decode cL_law 422 = .ok (.aload_n 0, 1) := by decide +kernel
theorem dL_law_423 : decode cL_law 423 = .ok (.iload_n 3, 1) := by decide +kernel
theorem dL_law_424 : decode cL_law 424 = .ok (.iconst 3, 1) := by decide +kernel
theorem dL_law_425 : decode cL_law 425 = .ok (.iadd, 1) := by decide +kernel
theorem dL_law_426 : decode cL_law 426 = .ok (.iaload, 1) := by decide +kernel
theorem dL_law_427 : decode cL_law 427 = .ok (.i2l, 1) := by decide +kernel
theorem dL_law_428 : decode cL_law 428 = .ok (.ldc2_w 13, 3) := by decide +kernel
theorem dL_law_431 : decode cL_law 431 = .ok (.land, 1) := by decide +kernel
theorem dL_law_432 : decode cL_law 432 = .ok (.lor, 1) := by decide +kernel
theorem dL_law_433 : decode cL_law 433 = .ok (.invokevirtual 47, 3) := by decide +kernel
theorem dL_law_436 : decode cL_law 436 = .ok (.aload_n 2, 1) := by decide +kernel
theorem dL_law_437 : decode cL_law 437 = .ok (.aload_n 0, 1) := by decide +kernel
theorem dL_law_438 : decode cL_law 438 = .ok (.iload_n 3, 1) := by decide +kernel
theorem dL_law_439 : decode cL_law 439 = .ok (.iconst 1, 1) := by decide +kernel
theorem dL_law_440 : decode cL_law 440 = .ok (.iadd, 1) := by decide +kernel
theorem dL_law_441 : decode cL_law 441 = .ok (.iaload, 1) := by decide +kernel
theorem dL_law_442 : decode cL_law 442 = .ok (.aload_n 0, 1) := by decide +kernel
theorem dL_law_443 : decode cL_law 443 = .ok (.iload_n 3, 1) := by decide +kernel
theorem dL_law_444 : decode cL_law 444 = .ok (.iconst 2, 1) := by decide +kernel
theorem dL_law_445 : decode cL_law 445 = .ok (.iadd, 1) := by decide +kernel
theorem dL_law_446 : decode cL_law 446 = .ok (.iaload, 1) := by decide +kernel
theorem dL_law_447 : decode cL_law 447 = .ok (.i2l, 1) := by decide +kernel
theorem dL_law_448 : decode cL_law 448 = .ok (.bipush 32, 2) := by decide +kernel
theorem dL_law_450 : decode cL_law 450 = .ok (.lshl, 1) := by decide +kernel
theorem dL_law_451 : decode cL_law 451 = .ok (.aload_n 0, 1) := by decide +kernel
theorem dL_law_452 : decode cL_law 452 = .ok (.iload_n 3, 1) := by decide +kernel
theorem dL_law_453 : decode cL_law 453 = .ok (.iconst 3, 1) := by decide +kernel
theorem dL_law_454 : decode cL_law 454 = .ok (.iadd, 1) := by decide +kernel
theorem dL_law_455 : decode cL_law 455 = .ok (.iaload, 1) := by decide +kernel
theorem dL_law_456 : decode cL_law 456 = .ok (.i2l, 1) := by decide +kernel
theorem dL_law_457 : decode cL_law 457 = .ok (.ldc2_w 13, 3) := by decide +kernel
theorem dL_law_460 : decode cL_law 460 = .ok (.land, 1) := by decide +kernel
theorem dL_law_461 : decode cL_law 461 = .ok (.lor, 1) := by decide +kernel
theorem dL_law_462 : decode cL_law 462 = .ok (.invokevirtual 51, 3) := by decide +kernel
theorem dL_law_465 : decode cL_law 465 = .ok (.if_icmp .eq 1595, 3) := by decide +kernel
theorem dL_law_468 : decode cL_law 468 = .ok (.iconst 0, 1) := by decide +kernel
theorem dL_law_469 : decode cL_law 469 = .ok (.ireturn, 1) := by decide +kernel
theorem dL_law_470 : decode cL_law 470 = .ok (.aload_n 1, 1) := by decide +kernel
theorem dL_law_471 : decode cL_law 471 = .ok (.aload_n 0, 1) := by decide +kernel
theorem dL_law_472 : decode cL_law 472 = .ok (.iload_n 3, 1) := by decide +kernel
theorem dL_law_473 : decode cL_law 473 = .ok (.iconst 1, 1) := by decide +kernel
theorem dL_law_474 : decode cL_law 474 = .ok (.iadd, 1) := by decide +kernel
theorem dL_law_475 : decode cL_law 475 = .ok (.iaload, 1) := by decide +kernel
theorem dL_law_476 : decode cL_law 476 = .ok (.aload_n 0, 1) := by decide +kernel
theorem dL_law_477 : decode cL_law 477 = .ok (.iload_n 3, 1) := by decide +kernel
theorem dL_law_478 : decode cL_law 478 = .ok (.iconst 2, 1) := by decide +kernel
theorem dL_law_479 : decode cL_law 479 = .ok (.iadd, 1) := by decide +kernel
theorem dL_law_480 : decode cL_law 480 = .ok (.iaload, 1) := by decide +kernel
theorem dL_law_481 : decode cL_law 481 = .ok (.i2l, 1) := by decide +kernel
theorem dL_law_482 : decode cL_law 482 = .ok (.bipush 32, 2) := by decide +kernel
theorem dL_law_484 : decode cL_law 484 = .ok (.lshl, 1) := by decide +kernel
theorem dL_law_485 : decode cL_law 485 = .ok (.aload_n 0, 1) := by decide +kernel
theorem dL_law_486 : decode cL_law 486 = .ok (.iload_n 3, 1) := by decide +kernel
theorem dL_law_487 : decode cL_law 487 = .ok (.iconst 3, 1) := by decide +kernel
theorem dL_law_488 : decode cL_law 488 = .ok (.iadd, 1) := by decide +kernel
theorem dL_law_489 : decode cL_law 489 = .ok (.iaload, 1) := by decide +kernel
theorem dL_law_490 : decode cL_law 490 = .ok (.i2l, 1) := by decide +kernel
theorem dL_law_491 : decode cL_law 491 = .ok (.ldc2_w 13, 3) := by decide +kernel
theorem dL_law_494 : decode cL_law 494 = .ok (.land, 1) := by decide +kernel
theorem dL_law_495 : decode cL_law 495 = .ok (.lor, 1) := by decide +kernel
theorem dL_law_496 : decode cL_law 496 = .ok (.invokevirtual 52, 3) := by decide +kernel
theorem dL_law_499 : decode cL_law 499 = .ok (.aload_n 2, 1) := by decide +kernel
theorem dL_law_500 : decode cL_law 500 = .ok (.aload_n 0, 1) := by decide +kernel
theorem dL_law_501 : decode cL_law 501 = .ok (.iload_n 3, 1) := by decide +kernel
theorem dL_law_502 : decode cL_law 502 = .ok (.iconst 1, 1) := by decide +kernel
theorem dL_law_503 : decode cL_law 503 = .ok (.iadd, 1) := by decide +kernel
theorem dL_law_504 : decode cL_law 504 = .ok (.iaload, 1) := by decide +kernel
theorem dL_law_505 : decode cL_law 505 = .ok (.aload_n 0, 1) := by decide +kernel
theorem dL_law_506 : decode cL_law 506 = .ok (.iload_n 3, 1) := by decide +kernel
theorem dL_law_507 : decode cL_law 507 = .ok (.iconst 2, 1) := by decide +kernel
theorem dL_law_508 : decode cL_law 508 = .ok (.iadd, 1) := by decide +kernel
theorem dL_law_509 : decode cL_law 509 = .ok (.iaload, 1) := by decide +kernel
theorem dL_law_510 : decode cL_law 510 = .ok (.i2l, 1) := by decide +kernel
theorem dL_law_511 : decode cL_law 511 = .ok (.bipush 32, 2) := by decide +kernel
theorem dL_law_513 : decode cL_law 513 = .ok (.lshl, 1) := by decide +kernel
theorem dL_law_514 : decode cL_law 514 = .ok (.aload_n 0, 1) := by decide +kernel
theorem dL_law_515 : decode cL_law 515 = .ok (.iload_n 3, 1) := by decide +kernel
theorem dL_law_516 : decode cL_law 516 = .ok (.iconst 3, 1) := by decide +kernel
theorem dL_law_517 : decode cL_law 517 = .ok (.iadd, 1) := by decide +kernel
theorem dL_law_518 : decode cL_law 518 = .ok (.iaload, 1) := by decide +kernel
theorem dL_law_519 : decode cL_law 519 = .ok (.i2l, 1) := by decide +kernel
theorem dL_law_520 : decode cL_law 520 = .ok (.ldc2_w 13, 3) := by decide +kernel
theorem dL_law_523 : decode cL_law 523 = .ok (.land, 1) := by decide +kernel
theorem dL_law_524 : decode cL_law 524 = .ok (.lor, 1) := by decide +kernel
theorem dL_law_525 : decode cL_law 525 = .ok (.invokevirtual 56, 3) := by decide +kernel
theorem dL_law_528 : decode cL_law 528 = .ok (.lcmp, 1) := by decide +kernel
theorem dL_law_529 : decode cL_law 529 = .ok (.ifCond .eq 1531, 3) := by decide +kernel
theorem dL_law_532 : decode cL_law 532 = .ok (.iconst 0, 1) := by decide +kernel
theorem dL_law_533 : decode cL_law 533 = .ok (.ireturn, 1) := by decide +kernel
theorem dL_law_534 : decode cL_law 534 = .ok (.aload_n 1, 1) := by decide +kernel
theorem dL_law_535 : decode cL_law 535 = .ok (.aload_n 0, 1) := by decide +kernel
theorem dL_law_536 : decode cL_law 536 = .ok (.iload_n 3, 1) := by decide +kernel
theorem dL_law_537 : decode cL_law 537 = .ok (.iconst 1, 1) := by decide +kernel
theorem dL_law_538 : decode cL_law 538 = .ok (.iadd, 1) := by decide +kernel
theorem dL_law_539 : decode cL_law 539 = .ok (.iaload, 1) := by decide +kernel
theorem dL_law_540 : decode cL_law 540 = .ok (.aload_n 0, 1) := by decide +kernel
theorem dL_law_541 : decode cL_law 541 = .ok (.iload_n 3, 1) := by decide +kernel
theorem dL_law_542 : decode cL_law 542 = .ok (.iconst 2, 1) := by decide +kernel
theorem dL_law_543 : decode cL_law 543 = .ok (.iadd, 1) := by decide +kernel
theorem dL_law_544 : decode cL_law 544 = .ok (.iaload, 1) := by decide +kernel
theorem dL_law_545 : decode cL_law 545 = .ok (.i2l, 1) := by decide +kernel
theorem dL_law_546 : decode cL_law 546 = .ok (.bipush 32, 2) := by decide +kernel
theorem dL_law_548 : decode cL_law 548 = .ok (.lshl, 1) := by decide +kernel
theorem dL_law_549 : decode cL_law 549 = .ok (.aload_n 0, 1) := by decide +kernel
theorem dL_law_550 : decode cL_law 550 = .ok (.iload_n 3, 1) := by decide +kernel
theorem dL_law_551 : decode cL_law 551 = .ok (.iconst 3, 1) := by decide +kernel
theorem dL_law_552 : decode cL_law 552 = .ok (.iadd, 1) := by decide +kernel
theorem dL_law_553 : decode cL_law 553 = .ok (.iaload, 1) := by decide +kernel
theorem dL_law_554 : decode cL_law 554 = .ok (.i2l, 1) := by decide +kernel
theorem dL_law_555 : decode cL_law 555 = .ok (.ldc2_w 13, 3) := by decide +kernel
theorem dL_law_558 : decode cL_law 558 = .ok (.land, 1) := by decide +kernel
theorem dL_law_559 : decode cL_law 559 = .ok (.lor, 1) := by decide +kernel
theorem dL_law_560 : decode cL_law 560 = .ok (.invokevirtual 57, 3) := by decide +kernel
theorem dL_law_563 : decode cL_law 563 = .ok (.aload_n 2, 1) := by decide +kernel
theorem dL_law_564 : decode cL_law 564 = .ok (.aload_n 0, 1) := by decide +kernel
theorem dL_law_565 : decode cL_law 565 = .ok (.iload_n 3, 1) := by decide +kernel
theorem dL_law_566 : decode cL_law 566 = .ok (.iconst 1, 1) := by decide +kernel
theorem dL_law_567 : decode cL_law 567 = .ok (.iadd, 1) := by decide +kernel
theorem dL_law_568 : decode cL_law 568 = .ok (.iaload, 1) := by decide +kernel
theorem dL_law_569 : decode cL_law 569 = .ok (.aload_n 0, 1) := by decide +kernel
theorem dL_law_570 : decode cL_law 570 = .ok (.iload_n 3, 1) := by decide +kernel
theorem dL_law_571 : decode cL_law 571 = .ok (.iconst 2, 1) := by decide +kernel
theorem dL_law_572 : decode cL_law 572 = .ok (.iadd, 1) := by decide +kernel
theorem dL_law_573 : decode cL_law 573 = .ok (.iaload, 1) := by decide +kernel
theorem dL_law_574 : decode cL_law 574 = .ok (.i2l, 1) := by decide +kernel
theorem dL_law_575 : decode cL_law 575 = .ok (.bipush 32, 2) := by decide +kernel
theorem dL_law_577 : decode cL_law 577 = .ok (.lshl, 1) := by decide +kernel
theorem dL_law_578 : decode cL_law 578 = .ok (.aload_n 0, 1) := by decide +kernel
theorem dL_law_579 : decode cL_law 579 = .ok (.iload_n 3, 1) := by decide +kernel
theorem dL_law_580 : decode cL_law 580 = .ok (.iconst 3, 1) := by decide +kernel
theorem dL_law_581 : decode cL_law 581 = .ok (.iadd, 1) := by decide +kernel
theorem dL_law_582 : decode cL_law 582 = .ok (.iaload, 1) := by decide +kernel
theorem dL_law_583 : decode cL_law 583 = .ok (.i2l, 1) := by decide +kernel
theorem dL_law_584 : decode cL_law 584 = .ok (.ldc2_w 13, 3) := by decide +kernel
theorem dL_law_587 : decode cL_law 587 = .ok (.land, 1) := by decide +kernel
theorem dL_law_588 : decode cL_law 588 = .ok (.lor, 1) := by decide +kernel
theorem dL_law_589 : decode cL_law 589 = .ok (.invokevirtual 60, 3) := by decide +kernel
theorem dL_law_592 : decode cL_law 592 = .ok (.lcmp, 1) := by decide +kernel
theorem dL_law_593 : decode cL_law 593 = .ok (.ifCond .eq 1467, 3) := by decide +kernel
theorem dL_law_596 : decode cL_law 596 = .ok (.iconst 0, 1) := by decide +kernel
theorem dL_law_597 : decode cL_law 597 = .ok (.ireturn, 1) := by decide +kernel
theorem dL_law_598 : decode cL_law 598 = .ok (.aload_n 1, 1) := by decide +kernel
theorem dL_law_599 : decode cL_law 599 = .ok (.aload_n 0, 1) := by decide +kernel
theorem dL_law_600 : decode cL_law 600 = .ok (.iload_n 3, 1) := by decide +kernel
theorem dL_law_601 : decode cL_law 601 = .ok (.iconst 1, 1) := by decide +kernel
theorem dL_law_602 : decode cL_law 602 = .ok (.iadd, 1) := by decide +kernel
theorem dL_law_603 : decode cL_law 603 = .ok (.iaload, 1) := by decide +kernel
theorem dL_law_604 : decode cL_law 604 = .ok (.aload_n 0, 1) := by decide +kernel
theorem dL_law_605 : decode cL_law 605 = .ok (.iload_n 3, 1) := by decide +kernel
theorem dL_law_606 : decode cL_law 606 = .ok (.iconst 2, 1) := by decide +kernel
theorem dL_law_607 : decode cL_law 607 = .ok (.iadd, 1) := by decide +kernel
theorem dL_law_608 : decode cL_law 608 = .ok (.iaload, 1) := by decide +kernel
theorem dL_law_609 : decode cL_law 609 = .ok (.i2l, 1) := by decide +kernel
theorem dL_law_610 : decode cL_law 610 = .ok (.bipush 32, 2) := by decide +kernel
theorem dL_law_612 : decode cL_law 612 = .ok (.lshl, 1) := by decide +kernel
theorem dL_law_613 : decode cL_law 613 = .ok (.aload_n 0, 1) := by decide +kernel
theorem dL_law_614 : decode cL_law 614 = .ok (.iload_n 3, 1) := by decide +kernel
theorem dL_law_615 : decode cL_law 615 = .ok (.iconst 3, 1) := by decide +kernel
theorem dL_law_616 : decode cL_law 616 = .ok (.iadd, 1) := by decide +kernel
theorem dL_law_617 : decode cL_law 617 = .ok (.iaload, 1) := by decide +kernel
theorem dL_law_618 : decode cL_law 618 = .ok (.i2l, 1) := by decide +kernel
theorem dL_law_619 : decode cL_law 619 = .ok (.ldc2_w 13, 3) := by decide +kernel
theorem dL_law_622 : decode cL_law 622 = .ok (.land, 1) := by decide +kernel
theorem dL_law_623 : decode cL_law 623 = .ok (.lor, 1) := by decide +kernel
theorem dL_law_624 : decode cL_law 624 = .ok (.aload_n 0, 1) := by decide +kernel
theorem dL_law_625 : decode cL_law 625 = .ok (.iload_n 3, 1) := by decide +kernel
theorem dL_law_626 : decode cL_law 626 = .ok (.iconst 4, 1) := by decide +kernel
theorem dL_law_627 : decode cL_law 627 = .ok (.iadd, 1) := by decide +kernel
theorem dL_law_628 : decode cL_law 628 = .ok (.iaload, 1) := by decide +kernel
theorem dL_law_629 : decode cL_law 629 = .ok (.i2l, 1) := by decide +kernel
theorem dL_law_630 : decode cL_law 630 = .ok (.bipush 32, 2) := by decide +kernel
theorem dL_law_632 : decode cL_law 632 = .ok (.lshl, 1) := by decide +kernel
theorem dL_law_633 : decode cL_law 633 = .ok (.aload_n 0, 1) := by decide +kernel
theorem dL_law_634 : decode cL_law 634 = .ok (.iload_n 3, 1) := by decide +kernel
theorem dL_law_635 : decode cL_law 635 = .ok (.iconst 5, 1) := by decide +kernel
theorem dL_law_636 : decode cL_law 636 = .ok (.iadd, 1) := by decide +kernel
theorem dL_law_637 : decode cL_law 637 = .ok (.iaload, 1) := by decide +kernel
theorem dL_law_638 : decode cL_law 638 = .ok (.i2l, 1) := by decide +kernel
theorem dL_law_639 : decode cL_law 639 = .ok (.ldc2_w 13, 3) := by decide +kernel
theorem dL_law_642 : decode cL_law 642 = .ok (.land, 1) := by decide +kernel
theorem dL_law_643 : decode cL_law 643 = .ok (.lor, 1) := by decide +kernel
theorem dL_law_644 : decode cL_law 644 = .ok (.invokevirtual 61, 3) := by decide +kernel
theorem dL_law_647 : decode cL_law 647 = .ok (.aload_n 2, 1) := by decide +kernel
theorem dL_law_648 : decode cL_law 648 = .ok (.aload_n 0, 1) := by decide +kernel
theorem dL_law_649 : decode cL_law 649 = .ok (.iload_n 3, 1) := by decide +kernel
theorem dL_law_650 : decode cL_law 650 = .ok (.iconst 1, 1) := by decide +kernel
theorem dL_law_651 : decode cL_law 651 = .ok (.iadd, 1) := by decide +kernel
theorem dL_law_652 : decode cL_law 652 = .ok (.iaload, 1) := by decide +kernel
theorem dL_law_653 : decode cL_law 653 = .ok (.aload_n 0, 1) := by decide +kernel
theorem dL_law_654 : decode cL_law 654 = .ok (.iload_n 3, 1) := by decide +kernel
theorem dL_law_655 : decode cL_law 655 = .ok (.iconst 2, 1) := by decide +kernel
theorem dL_law_656 : decode cL_law 656 = .ok (.iadd, 1) := by decide +kernel
theorem dL_law_657 : decode cL_law 657 = .ok (.iaload, 1) := by decide +kernel
theorem dL_law_658 : decode cL_law 658 = .ok (.i2l, 1) := by decide +kernel
theorem dL_law_659 : decode cL_law 659 = .ok (.bipush 32, 2) := by decide +kernel
theorem dL_law_661 : decode cL_law 661 = .ok (.lshl, 1) := by decide +kernel
theorem dL_law_662 : decode cL_law 662 = .ok (.aload_n 0, 1) := by decide +kernel
theorem dL_law_663 : decode cL_law 663 = .ok (.iload_n 3, 1) := by decide +kernel
theorem dL_law_664 : decode cL_law 664 = .ok (.iconst 3, 1) := by decide +kernel
theorem dL_law_665 : decode cL_law 665 = .ok (.iadd, 1) := by decide +kernel
theorem dL_law_666 : decode cL_law 666 = .ok (.iaload, 1) := by decide +kernel
theorem dL_law_667 : decode cL_law 667 = .ok (.i2l, 1) := by decide +kernel
theorem dL_law_668 : decode cL_law 668 = .ok (.ldc2_w 13, 3) := by decide +kernel
theorem dL_law_671 : decode cL_law 671 = .ok (.land, 1) := by decide +kernel
theorem dL_law_672 : decode cL_law 672 = .ok (.lor, 1) := by decide +kernel
theorem dL_law_673 : decode cL_law 673 = .ok (.aload_n 0, 1) := by decide +kernel
theorem dL_law_674 : decode cL_law 674 = .ok (.iload_n 3, 1) := by decide +kernel
theorem dL_law_675 : decode cL_law 675 = .ok (.iconst 4, 1) := by decide +kernel
theorem dL_law_676 : decode cL_law 676 = .ok (.iadd, 1) := by decide +kernel
theorem dL_law_677 : decode cL_law 677 = .ok (.iaload, 1) := by decide +kernel
theorem dL_law_678 : decode cL_law 678 = .ok (.i2l, 1) := by decide +kernel
theorem dL_law_679 : decode cL_law 679 = .ok (.bipush 32, 2) := by decide +kernel
theorem dL_law_681 : decode cL_law 681 = .ok (.lshl, 1) := by decide +kernel
theorem dL_law_682 : decode cL_law 682 = .ok (.aload_n 0, 1) := by decide +kernel
theorem dL_law_683 : decode cL_law 683 = .ok (.iload_n 3, 1) := by decide +kernel
theorem dL_law_684 : decode cL_law 684 = .ok (.iconst 5, 1) := by decide +kernel
theorem dL_law_685 : decode cL_law 685 = .ok (.iadd, 1) := by decide +kernel
theorem dL_law_686 : decode cL_law 686 = .ok (.iaload, 1) := by decide +kernel
theorem dL_law_687 : decode cL_law 687 = .ok (.i2l, 1) := by decide +kernel
theorem dL_law_688 : decode cL_law 688 = .ok (.ldc2_w 13, 3) := by decide +kernel
theorem dL_law_691 : decode cL_law 691 = .ok (.land, 1) := by decide +kernel
theorem dL_law_692 : decode cL_law 692 = .ok (.lor, 1) := by decide +kernel
theorem dL_law_693 : decode cL_law 693 = .ok (.invokevirtual 65, 3) := by decide +kernel
theorem dL_law_696 : decode cL_law 696 = .ok (.lcmp, 1) := by decide +kernel
theorem dL_law_697 : decode cL_law 697 = .ok (.ifCond .eq 1363, 3) := by decide +kernel
theorem dL_law_700 : decode cL_law 700 = .ok (.iconst 0, 1) := by decide +kernel
theorem dL_law_701 : decode cL_law 701 = .ok (.ireturn, 1) := by decide +kernel
theorem dL_law_702 : decode cL_law 702 = .ok (.aload_n 1, 1) := by decide +kernel
theorem dL_law_703 : decode cL_law 703 = .ok (.aload_n 0, 1) := by decide +kernel
theorem dL_law_704 : decode cL_law 704 = .ok (.iload_n 3, 1) := by decide +kernel
theorem dL_law_705 : decode cL_law 705 = .ok (.iconst 1, 1) := by decide +kernel
theorem dL_law_706 : decode cL_law 706 = .ok (.iadd, 1) := by decide +kernel
theorem dL_law_707 : decode cL_law 707 = .ok (.iaload, 1) := by decide +kernel
theorem dL_law_708 : decode cL_law 708 = .ok (.aload_n 0, 1) := by decide +kernel
theorem dL_law_709 : decode cL_law 709 = .ok (.iload_n 3, 1) := by decide +kernel
theorem dL_law_710 : decode cL_law 710 = .ok (.iconst 2, 1) := by decide +kernel
theorem dL_law_711 : decode cL_law 711 = .ok (.iadd, 1) := by decide +kernel
theorem dL_law_712 : decode cL_law 712 = .ok (.iaload, 1) := by decide +kernel
theorem dL_law_713 : decode cL_law 713 = .ok (.aload_n 0, 1) := by decide +kernel
theorem dL_law_714 : decode cL_law 714 = .ok (.iload_n 3, 1) := by decide +kernel
theorem dL_law_715 : decode cL_law 715 = .ok (.iconst 3, 1) := by decide +kernel
theorem dL_law_716 : decode cL_law 716 = .ok (.iadd, 1) := by decide +kernel
theorem dL_law_717 : decode cL_law 717 = .ok (.iaload, 1) := by decide +kernel
theorem dL_law_718 : decode cL_law 718 = .ok (.i2l, 1) := by decide +kernel
theorem dL_law_719 : decode cL_law 719 = .ok (.bipush 32, 2) := by decide +kernel
theorem dL_law_721 : decode cL_law 721 = .ok (.lshl, 1) := by decide +kernel
theorem dL_law_722 : decode cL_law 722 = .ok (.aload_n 0, 1) := by decide +kernel
theorem dL_law_723 : decode cL_law 723 = .ok (.iload_n 3, 1) := by decide +kernel
theorem dL_law_724 : decode cL_law 724 = .ok (.iconst 4, 1) := by decide +kernel
theorem dL_law_725 : decode cL_law 725 = .ok (.iadd, 1) := by decide +kernel
theorem dL_law_726 : decode cL_law 726 = .ok (.iaload, 1) := by decide +kernel
theorem dL_law_727 : decode cL_law 727 = .ok (.i2l, 1) := by decide +kernel
theorem dL_law_728 : decode cL_law 728 = .ok (.ldc2_w 13, 3) := by decide +kernel
theorem dL_law_731 : decode cL_law 731 = .ok (.land, 1) := by decide +kernel
theorem dL_law_732 : decode cL_law 732 = .ok (.lor, 1) := by decide +kernel
theorem dL_law_733 : decode cL_law 733 = .ok (.invokevirtual 66, 3) := by decide +kernel
theorem dL_law_736 : decode cL_law 736 = .ok (.aload_n 2, 1) := by decide +kernel
theorem dL_law_737 : decode cL_law 737 = .ok (.aload_n 0, 1) := by decide +kernel
theorem dL_law_738 : decode cL_law 738 = .ok (.iload_n 3, 1) := by decide +kernel
theorem dL_law_739 : decode cL_law 739 = .ok (.iconst 1, 1) := by decide +kernel
theorem dL_law_740 : decode cL_law 740 = .ok (.iadd, 1) := by decide +kernel
theorem dL_law_741 : decode cL_law 741 = .ok (.iaload, 1) := by decide +kernel
theorem dL_law_742 : decode cL_law 742 = .ok (.aload_n 0, 1) := by decide +kernel
theorem dL_law_743 : decode cL_law 743 = .ok (.iload_n 3, 1) := by decide +kernel
theorem dL_law_744 : decode cL_law 744 = .ok (.iconst 2, 1) := by decide +kernel
theorem dL_law_745 : decode cL_law 745 = .ok (.iadd, 1) := by decide +kernel
theorem dL_law_746 : decode cL_law 746 = .ok (.iaload, 1) := by decide +kernel
theorem dL_law_747 : decode cL_law 747 = .ok (.aload_n 0, 1) := by decide +kernel
theorem dL_law_748 : decode cL_law 748 = .ok (.iload_n 3, 1) := by decide +kernel
theorem dL_law_749 : decode cL_law 749 = .ok (.iconst 3, 1) := by decide +kernel
theorem dL_law_750 : decode cL_law 750 = .ok (.iadd, 1) := by decide +kernel
theorem dL_law_751 : decode cL_law 751 = .ok (.iaload, 1) := by decide +kernel
theorem dL_law_752 : decode cL_law 752 = .ok (.i2l, 1) := by decide +kernel
theorem dL_law_753 : decode cL_law 753 = .ok (.bipush 32, 2) := by decide +kernel
theorem dL_law_755 : decode cL_law 755 = .ok (.lshl, 1) := by decide +kernel
theorem dL_law_756 : decode cL_law 756 = .ok (.aload_n 0, 1) := by decide +kernel
theorem dL_law_757 : decode cL_law 757 = .ok (.iload_n 3, 1) := by decide +kernel
theorem dL_law_758 : decode cL_law 758 = .ok (.iconst 4, 1) := by decide +kernel
theorem dL_law_759 : decode cL_law 759 = .ok (.iadd, 1) := by decide +kernel
theorem dL_law_760 : decode cL_law 760 = .ok (.iaload, 1) := by decide +kernel
theorem dL_law_761 : decode cL_law 761 = .ok (.i2l, 1) := by decide +kernel
theorem dL_law_762 : decode cL_law 762 = .ok (.ldc2_w 13, 3) := by decide +kernel
theorem dL_law_765 : decode cL_law 765 = .ok (.land, 1) := by decide +kernel
theorem dL_law_766 : decode cL_law 766 = .ok (.lor, 1) := by decide +kernel
theorem dL_law_767 : decode cL_law 767 = .ok (.invokevirtual 70, 3) := by decide +kernel
theorem dL_law_770 : decode cL_law 770 = .ok (.lcmp, 1) := by decide +kernel
theorem dL_law_771 : decode cL_law 771 = .ok (.ifCond .eq 1289, 3) := by decide +kernel
theorem dL_law_774 : decode cL_law 774 = .ok (.iconst 0, 1) := by decide +kernel
theorem dL_law_775 : decode cL_law 775 = .ok (.ireturn, 1) := by decide +kernel
theorem dL_law_776 : decode cL_law 776 = .ok (.aload_n 1, 1) := by decide +kernel
theorem dL_law_777 : decode cL_law 777 = .ok (.aload_n 0, 1) := by decide +kernel
theorem dL_law_778 : decode cL_law 778 = .ok (.iload_n 3, 1) := by decide +kernel
theorem dL_law_779 : decode cL_law 779 = .ok (.iconst 1, 1) := by decide +kernel
theorem dL_law_780 : decode cL_law 780 = .ok (.iadd, 1) := by decide +kernel
theorem dL_law_781 : decode cL_law 781 = .ok (.iaload, 1) := by decide +kernel
theorem dL_law_782 : decode cL_law 782 = .ok (.aload_n 0, 1) := by decide +kernel
theorem dL_law_783 : decode cL_law 783 = .ok (.iload_n 3, 1) := by decide +kernel
theorem dL_law_784 : decode cL_law 784 = .ok (.iconst 2, 1) := by decide +kernel
theorem dL_law_785 : decode cL_law 785 = .ok (.iadd, 1) := by decide +kernel
theorem dL_law_786 : decode cL_law 786 = .ok (.iaload, 1) := by decide +kernel
theorem dL_law_787 : decode cL_law 787 = .ok (.aload_n 0, 1) := by decide +kernel
theorem dL_law_788 : decode cL_law 788 = .ok (.iload_n 3, 1) := by decide +kernel
theorem dL_law_789 : decode cL_law 789 = .ok (.iconst 3, 1) := by decide +kernel
theorem dL_law_790 : decode cL_law 790 = .ok (.iadd, 1) := by decide +kernel
theorem dL_law_791 : decode cL_law 791 = .ok (.iaload, 1) := by decide +kernel
theorem dL_law_792 : decode cL_law 792 = .ok (.i2l, 1) := by decide +kernel
theorem dL_law_793 : decode cL_law 793 = .ok (.bipush 32, 2) := by decide +kernel
theorem dL_law_795 : decode cL_law 795 = .ok (.lshl, 1) := by decide +kernel
theorem dL_law_796 : decode cL_law 796 = .ok (.aload_n 0, 1) := by decide +kernel
theorem dL_law_797 : decode cL_law 797 = .ok (.iload_n 3, 1) := by decide +kernel
theorem dL_law_798 : decode cL_law 798 = .ok (.iconst 4, 1) := by decide +kernel
theorem dL_law_799 : decode cL_law 799 = .ok (.iadd, 1) := by decide +kernel
theorem dL_law_800 : decode cL_law 800 = .ok (.iaload, 1) := by decide +kernel
theorem dL_law_801 : decode cL_law 801 = .ok (.i2l, 1) := by decide +kernel
theorem dL_law_802 : decode cL_law 802 = .ok (.ldc2_w 13, 3) := by decide +kernel
theorem dL_law_805 : decode cL_law 805 = .ok (.land, 1) := by decide +kernel
theorem dL_law_806 : decode cL_law 806 = .ok (.lor, 1) := by decide +kernel
theorem dL_law_807 : decode cL_law 807 = .ok (.aload_n 0, 1) := by decide +kernel
theorem dL_law_808 : decode cL_law 808 = .ok (.iload_n 3, 1) := by decide +kernel
theorem dL_law_809 : decode cL_law 809 = .ok (.iconst 5, 1) := by decide +kernel
theorem dL_law_810 : decode cL_law 810 = .ok (.iadd, 1) := by decide +kernel
theorem dL_law_811 : decode cL_law 811 = .ok (.iaload, 1) := by decide +kernel
theorem dL_law_812 : decode cL_law 812 = .ok (.i2l, 1) := by decide +kernel
theorem dL_law_813 : decode cL_law 813 = .ok (.bipush 32, 2) := by decide +kernel
theorem dL_law_815 : decode cL_law 815 = .ok (.lshl, 1) := by decide +kernel
theorem dL_law_816 : decode cL_law 816 = .ok (.aload_n 0, 1) := by decide +kernel
theorem dL_law_817 : decode cL_law 817 = .ok (.iload_n 3, 1) := by decide +kernel
theorem dL_law_818 : decode cL_law 818 = .ok (.bipush 6, 2) := by decide +kernel
theorem dL_law_820 : decode cL_law 820 = .ok (.iadd, 1) := by decide +kernel
theorem dL_law_821 : decode cL_law 821 = .ok (.iaload, 1) := by decide +kernel
theorem dL_law_822 : decode cL_law 822 = .ok (.i2l, 1) := by decide +kernel
theorem dL_law_823 : decode cL_law 823 = .ok (.ldc2_w 13, 3) := by decide +kernel
theorem dL_law_826 : decode cL_law 826 = .ok (.land, 1) := by decide +kernel
theorem dL_law_827 : decode cL_law 827 = .ok (.lor, 1) := by decide +kernel
theorem dL_law_828 : decode cL_law 828 = .ok (.invokevirtual 71, 3) := by decide +kernel
theorem dL_law_831 : decode cL_law 831 = .ok (.aload_n 2, 1) := by decide +kernel
theorem dL_law_832 : decode cL_law 832 = .ok (.aload_n 0, 1) := by decide +kernel
theorem dL_law_833 : decode cL_law 833 = .ok (.iload_n 3, 1) := by decide +kernel
theorem dL_law_834 : decode cL_law 834 = .ok (.iconst 1, 1) := by decide +kernel
theorem dL_law_835 : decode cL_law 835 = .ok (.iadd, 1) := by decide +kernel
theorem dL_law_836 : decode cL_law 836 = .ok (.iaload, 1) := by decide +kernel
theorem dL_law_837 : decode cL_law 837 = .ok (.aload_n 0, 1) := by decide +kernel
theorem dL_law_838 : decode cL_law 838 = .ok (.iload_n 3, 1) := by decide +kernel
theorem dL_law_839 : decode cL_law 839 = .ok (.iconst 2, 1) := by decide +kernel
theorem dL_law_840 : decode cL_law 840 = .ok (.iadd, 1) := by decide +kernel
theorem dL_law_841 : decode cL_law 841 = .ok (.iaload, 1) := by decide +kernel
theorem dL_law_842 : decode cL_law 842 = .ok (.aload_n 0, 1) := by decide +kernel
theorem dL_law_843 : decode cL_law 843 = .ok (.iload_n 3, 1) := by decide +kernel
theorem dL_law_844 : decode cL_law 844 = .ok (.iconst 3, 1) := by decide +kernel
theorem dL_law_845 : decode cL_law 845 = .ok (.iadd, 1) := by decide +kernel
theorem dL_law_846 : decode cL_law 846 = .ok (.iaload, 1) := by decide +kernel
theorem dL_law_847 : decode cL_law 847 = .ok (.i2l, 1) := by decide +kernel
theorem dL_law_848 : decode cL_law 848 = .ok (.bipush 32, 2) := by decide +kernel
theorem dL_law_850 : decode cL_law 850 = .ok (.lshl, 1) := by decide +kernel
theorem dL_law_851 : decode cL_law 851 = .ok (.aload_n 0, 1) := by decide +kernel
theorem dL_law_852 : decode cL_law 852 = .ok (.iload_n 3, 1) := by decide +kernel
theorem dL_law_853 : decode cL_law 853 = .ok (.iconst 4, 1) := by decide +kernel
theorem dL_law_854 : decode cL_law 854 = .ok (.iadd, 1) := by decide +kernel
theorem dL_law_855 : decode cL_law 855 = .ok (.iaload, 1) := by decide +kernel
theorem dL_law_856 : decode cL_law 856 = .ok (.i2l, 1) := by decide +kernel
theorem dL_law_857 : decode cL_law 857 = .ok (.ldc2_w 13, 3) := by decide +kernel
theorem dL_law_860 : decode cL_law 860 = .ok (.land, 1) := by decide +kernel
theorem dL_law_861 : decode cL_law 861 = .ok (.lor, 1) := by decide +kernel
theorem dL_law_862 : decode cL_law 862 = .ok (.aload_n 0, 1) := by decide +kernel
theorem dL_law_863 : decode cL_law 863 = .ok (.iload_n 3, 1) := by decide +kernel
theorem dL_law_864 : decode cL_law 864 = .ok (.iconst 5, 1) := by decide +kernel
theorem dL_law_865 : decode cL_law 865 = .ok (.iadd, 1) := by decide +kernel
theorem dL_law_866 : decode cL_law 866 = .ok (.iaload, 1) := by decide +kernel
theorem dL_law_867 : decode cL_law 867 = .ok (.i2l, 1) := by decide +kernel
theorem dL_law_868 : decode cL_law 868 = .ok (.bipush 32, 2) := by decide +kernel
theorem dL_law_870 : decode cL_law 870 = .ok (.lshl, 1) := by decide +kernel
theorem dL_law_871 : decode cL_law 871 = .ok (.aload_n 0, 1) := by decide +kernel
theorem dL_law_872 : decode cL_law 872 = .ok (.iload_n 3, 1) := by decide +kernel
theorem dL_law_873 : decode cL_law 873 = .ok (.bipush 6, 2) := by decide +kernel
theorem dL_law_875 : decode cL_law 875 = .ok (.iadd, 1) := by decide +kernel
theorem dL_law_876 : decode cL_law 876 = .ok (.iaload, 1) := by decide +kernel
theorem dL_law_877 : decode cL_law 877 = .ok (.i2l, 1) := by decide +kernel
theorem dL_law_878 : decode cL_law 878 = .ok (.ldc2_w 13, 3) := by decide +kernel
theorem dL_law_881 : decode cL_law 881 = .ok (.land, 1) := by decide +kernel
theorem dL_law_882 : decode cL_law 882 = .ok (.lor, 1) := by decide +kernel
theorem dL_law_883 : decode cL_law 883 = .ok (.invokevirtual 75, 3) := by decide +kernel
theorem dL_law_886 : decode cL_law 886 = .ok (.lcmp, 1) := by decide +kernel
theorem dL_law_887 : decode cL_law 887 = .ok (.ifCond .eq 1173, 3) := by decide +kernel
theorem dL_law_890 : decode cL_law 890 = .ok (.iconst 0, 1) := by decide +kernel
theorem dL_law_891 : decode cL_law 891 = .ok (.ireturn, 1) := by decide +kernel
theorem dL_law_892 : decode cL_law 892 = .ok (.aload_n 1, 1) := by decide +kernel
theorem dL_law_893 : decode cL_law 893 = .ok (.aload_n 0, 1) := by decide +kernel
theorem dL_law_894 : decode cL_law 894 = .ok (.iload_n 3, 1) := by decide +kernel
theorem dL_law_895 : decode cL_law 895 = .ok (.iconst 1, 1) := by decide +kernel
theorem dL_law_896 : decode cL_law 896 = .ok (.iadd, 1) := by decide +kernel
theorem dL_law_897 : decode cL_law 897 = .ok (.iaload, 1) := by decide +kernel
theorem dL_law_898 : decode cL_law 898 = .ok (.aload_n 0, 1) := by decide +kernel
theorem dL_law_899 : decode cL_law 899 = .ok (.iload_n 3, 1) := by decide +kernel
theorem dL_law_900 : decode cL_law 900 = .ok (.iconst 2, 1) := by decide +kernel
theorem dL_law_901 : decode cL_law 901 = .ok (.iadd, 1) := by decide +kernel
theorem dL_law_902 : decode cL_law 902 = .ok (.iaload, 1) := by decide +kernel
theorem dL_law_903 : decode cL_law 903 = .ok (.i2l, 1) := by decide +kernel
theorem dL_law_904 : decode cL_law 904 = .ok (.bipush 32, 2) := by decide +kernel
theorem dL_law_906 : decode cL_law 906 = .ok (.lshl, 1) := by decide +kernel
theorem dL_law_907 : decode cL_law 907 = .ok (.aload_n 0, 1) := by decide +kernel
theorem dL_law_908 : decode cL_law 908 = .ok (.iload_n 3, 1) := by decide +kernel
theorem dL_law_909 : decode cL_law 909 = .ok (.iconst 3, 1) := by decide +kernel
theorem dL_law_910 : decode cL_law 910 = .ok (.iadd, 1) := by decide +kernel
theorem dL_law_911 : decode cL_law 911 = .ok (.iaload, 1) := by decide +kernel
theorem dL_law_912 : decode cL_law 912 = .ok (.i2l, 1) := by decide +kernel
theorem dL_law_913 : decode cL_law 913 = .ok (.ldc2_w 13, 3) := by decide +kernel
theorem dL_law_916 : decode cL_law 916 = .ok (.land, 1) := by decide +kernel
theorem dL_law_917 : decode cL_law 917 = .ok (.lor, 1) := by decide +kernel
theorem dL_law_918 : decode cL_law 918 = .ok (.invokevirtual 76, 3) := by decide +kernel
theorem dL_law_921 : decode cL_law 921 = .ok (.aload_n 2, 1) := by decide +kernel
theorem dL_law_922 : decode cL_law 922 = .ok (.aload_n 0, 1) := by decide +kernel
theorem dL_law_923 : decode cL_law 923 = .ok (.iload_n 3, 1) := by decide +kernel
theorem dL_law_924 : decode cL_law 924 = .ok (.iconst 1, 1) := by decide +kernel
theorem dL_law_925 : decode cL_law 925 = .ok (.iadd, 1) := by decide +kernel
theorem dL_law_926 : decode cL_law 926 = .ok (.iaload, 1) := by decide +kernel
theorem dL_law_927 : decode cL_law 927 = .ok (.aload_n 0, 1) := by decide +kernel
theorem dL_law_928 : decode cL_law 928 = .ok (.iload_n 3, 1) := by decide +kernel
theorem dL_law_929 : decode cL_law 929 = .ok (.iconst 2, 1) := by decide +kernel
theorem dL_law_930 : decode cL_law 930 = .ok (.iadd, 1) := by decide +kernel
theorem dL_law_931 : decode cL_law 931 = .ok (.iaload, 1) := by decide +kernel
theorem dL_law_932 : decode cL_law 932 = .ok (.i2l, 1) := by decide +kernel
theorem dL_law_933 : decode cL_law 933 = .ok (.bipush 32, 2) := by decide +kernel
theorem dL_law_935 : decode cL_law 935 = .ok (.lshl, 1) := by decide +kernel
theorem dL_law_936 : decode cL_law 936 = .ok (.aload_n 0, 1) := by decide +kernel
theorem dL_law_937 : decode cL_law 937 = .ok (.iload_n 3, 1) := by decide +kernel
theorem dL_law_938 : decode cL_law 938 = .ok (.iconst 3, 1) := by decide +kernel
theorem dL_law_939 : decode cL_law 939 = .ok (.iadd, 1) := by decide +kernel
theorem dL_law_940 : decode cL_law 940 = .ok (.iaload, 1) := by decide +kernel
theorem dL_law_941 : decode cL_law 941 = .ok (.i2l, 1) := by decide +kernel
theorem dL_law_942 : decode cL_law 942 = .ok (.ldc2_w 13, 3) := by decide +kernel
theorem dL_law_945 : decode cL_law 945 = .ok (.land, 1) := by decide +kernel
theorem dL_law_946 : decode cL_law 946 = .ok (.lor, 1) := by decide +kernel
theorem dL_law_947 : decode cL_law 947 = .ok (.invokevirtual 79, 3) := by decide +kernel
theorem dL_law_950 : decode cL_law 950 = .ok (.lcmp, 1) := by decide +kernel
theorem dL_law_951 : decode cL_law 951 = .ok (.ifCond .eq 1109, 3) := by decide +kernel
theorem dL_law_954 : decode cL_law 954 = .ok (.iconst 0, 1) := by decide +kernel
theorem dL_law_955 : decode cL_law 955 = .ok (.ireturn, 1) := by decide +kernel
theorem dL_law_956 : decode cL_law 956 = .ok (.aload_n 1, 1) := by decide +kernel
theorem dL_law_957 : decode cL_law 957 = .ok (.aload_n 0, 1) := by decide +kernel
theorem dL_law_958 : decode cL_law 958 = .ok (.iload_n 3, 1) := by decide +kernel
theorem dL_law_959 : decode cL_law 959 = .ok (.iconst 1, 1) := by decide +kernel
theorem dL_law_960 : decode cL_law 960 = .ok (.iadd, 1) := by decide +kernel
theorem dL_law_961 : decode cL_law 961 = .ok (.iaload, 1) := by decide +kernel
theorem dL_law_962 : decode cL_law 962 = .ok (.invokevirtual 80, 3) := by decide +kernel
theorem dL_law_965 : decode cL_law 965 = .ok (.aload_n 2, 1) := by decide +kernel
theorem dL_law_966 : decode cL_law 966 = .ok (.aload_n 0, 1) := by decide +kernel
theorem dL_law_967 : decode cL_law 967 = .ok (.iload_n 3, 1) := by decide +kernel
theorem dL_law_968 : decode cL_law 968 = .ok (.iconst 1, 1) := by decide +kernel
theorem dL_law_969 : decode cL_law 969 = .ok (.iadd, 1) := by decide +kernel
theorem dL_law_970 : decode cL_law 970 = .ok (.iaload, 1) := by decide +kernel
theorem dL_law_971 : decode cL_law 971 = .ok (.invokevirtual 84, 3) := by decide +kernel
theorem dL_law_974 : decode cL_law 974 = .ok (.lcmp, 1) := by decide +kernel
theorem dL_law_975 : decode cL_law 975 = .ok (.ifCond .eq 1085, 3) := by decide +kernel
theorem dL_law_978 : decode cL_law 978 = .ok (.iconst 0, 1) := by decide +kernel
theorem dL_law_979 : decode cL_law 979 = .ok (.ireturn, 1) := by decide +kernel
theorem dL_law_980 : decode cL_law 980 = .ok (.aload_n 1, 1) := by decide +kernel
theorem dL_law_981 : decode cL_law 981 = .ok (.aload_n 0, 1) := by decide +kernel
theorem dL_law_982 : decode cL_law 982 = .ok (.iload_n 3, 1) := by decide +kernel
theorem dL_law_983 : decode cL_law 983 = .ok (.iconst 1, 1) := by decide +kernel
theorem dL_law_984 : decode cL_law 984 = .ok (.iadd, 1) := by decide +kernel
theorem dL_law_985 : decode cL_law 985 = .ok (.iaload, 1) := by decide +kernel
theorem dL_law_986 : decode cL_law 986 = .ok (.invokevirtual 85, 3) := by decide +kernel
theorem dL_law_989 : decode cL_law 989 = .ok (.aload_n 2, 1) := by decide +kernel
theorem dL_law_990 : decode cL_law 990 = .ok (.aload_n 0, 1) := by decide +kernel
theorem dL_law_991 : decode cL_law 991 = .ok (.iload_n 3, 1) := by decide +kernel
theorem dL_law_992 : decode cL_law 992 = .ok (.iconst 1, 1) := by decide +kernel
theorem dL_law_993 : decode cL_law 993 = .ok (.iadd, 1) := by decide +kernel
theorem dL_law_994 : decode cL_law 994 = .ok (.iaload, 1) := by decide +kernel
theorem dL_law_995 : decode cL_law 995 = .ok (.invokevirtual 88, 3) := by decide +kernel
theorem dL_law_998 : decode cL_law 998 = .ok (.if_icmp .eq 1062, 3) := by decide +kernel
theorem dL_law_1001 : decode cL_law 1001 = .ok (.iconst 0, 1) := by decide +kernel
theorem dL_law_1002 : decode cL_law 1002 = .ok (.ireturn, 1) := by decide +kernel
theorem dL_law_1003 : decode cL_law 1003 = .ok (.aload_n 1, 1) := by decide +kernel
theorem dL_law_1004 : decode cL_law 1004 = .ok (.aload_n 0, 1) := by decide +kernel
theorem dL_law_1005 : decode cL_law 1005 = .ok (.iload_n 3, 1) := by decide +kernel
theorem dL_law_1006 : decode cL_law 1006 = .ok (.iconst 1, 1) := by decide +kernel
theorem dL_law_1007 : decode cL_law 1007 = .ok (.iadd, 1) := by decide +kernel
theorem dL_law_1008 : decode cL_law 1008 = .ok (.iaload, 1) := by decide +kernel
theorem dL_law_1009 : decode cL_law 1009 = .ok (.i2l, 1) := by decide +kernel
theorem dL_law_1010 : decode cL_law 1010 = .ok (.bipush 32, 2) := by decide +kernel
theorem dL_law_1012 : decode cL_law 1012 = .ok (.lshl, 1) := by decide +kernel
theorem dL_law_1013 : decode cL_law 1013 = .ok (.aload_n 0, 1) := by decide +kernel
theorem dL_law_1014 : decode cL_law 1014 = .ok (.iload_n 3, 1) := by decide +kernel
theorem dL_law_1015 : decode cL_law 1015 = .ok (.iconst 2, 1) := by decide +kernel
theorem dL_law_1016 : decode cL_law 1016 = .ok (.iadd, 1) := by decide +kernel
theorem dL_law_1017 : decode cL_law 1017 = .ok (.iaload, 1) := by decide +kernel
theorem dL_law_1018 : decode cL_law 1018 = .ok (.i2l, 1) := by decide +kernel
theorem dL_law_1019 : decode cL_law 1019 = .ok (.ldc2_w 13, 3) := by decide +kernel
theorem dL_law_1022 : decode cL_law 1022 = .ok (.land, 1) := by decide +kernel
theorem dL_law_1023 : decode cL_law 1023 = .ok (.lor, 1) := by decide +kernel
theorem dL_law_1024 : decode cL_law 1024 = .ok (.aload_n 0, 1) := by decide +kernel
theorem dL_law_1025 : decode cL_law 1025 = .ok (.iload_n 3, 1) := by decide +kernel
theorem dL_law_1026 : decode cL_law 1026 = .ok (.iconst 3, 1) := by decide +kernel
theorem dL_law_1027 : decode cL_law 1027 = .ok (.iadd, 1) := by decide +kernel
theorem dL_law_1028 : decode cL_law 1028 = .ok (.iaload, 1) := by decide +kernel
theorem dL_law_1029 : decode cL_law 1029 = .ok (.invokevirtual 89, 3) := by decide +kernel
theorem dL_law_1032 : decode cL_law 1032 = .ok (.aload_n 2, 1) := by decide +kernel
theorem dL_law_1033 : decode cL_law 1033 = .ok (.aload_n 0, 1) := by decide +kernel
theorem dL_law_1034 : decode cL_law 1034 = .ok (.iload_n 3, 1) := by decide +kernel
theorem dL_law_1035 : decode cL_law 1035 = .ok (.iconst 1, 1) := by decide +kernel
theorem dL_law_1036 : decode cL_law 1036 = .ok (.iadd, 1) := by decide +kernel
theorem dL_law_1037 : decode cL_law 1037 = .ok (.iaload, 1) := by decide +kernel
theorem dL_law_1038 : decode cL_law 1038 = .ok (.i2l, 1) := by decide +kernel
theorem dL_law_1039 : decode cL_law 1039 = .ok (.bipush 32, 2) := by decide +kernel
theorem dL_law_1041 : decode cL_law 1041 = .ok (.lshl, 1) := by decide +kernel
theorem dL_law_1042 : decode cL_law 1042 = .ok (.aload_n 0, 1) := by decide +kernel
theorem dL_law_1043 : decode cL_law 1043 = .ok (.iload_n 3, 1) := by decide +kernel
theorem dL_law_1044 : decode cL_law 1044 = .ok (.iconst 2, 1) := by decide +kernel
theorem dL_law_1045 : decode cL_law 1045 = .ok (.iadd, 1) := by decide +kernel
theorem dL_law_1046 : decode cL_law 1046 = .ok (.iaload, 1) := by decide +kernel
theorem dL_law_1047 : decode cL_law 1047 = .ok (.i2l, 1) := by decide +kernel
theorem dL_law_1048 : decode cL_law 1048 = .ok (.ldc2_w 13, 3) := by decide +kernel
theorem dL_law_1051 : decode cL_law 1051 = .ok (.land, 1) := by decide +kernel
theorem dL_law_1052 : decode cL_law 1052 = .ok (.lor, 1) := by decide +kernel
theorem dL_law_1053 : decode cL_law 1053 = .ok (.aload_n 0, 1) := by decide +kernel
theorem dL_law_1054 : decode cL_law 1054 = .ok (.iload_n 3, 1) := by decide +kernel
theorem dL_law_1055 : decode cL_law 1055 = .ok (.iconst 3, 1) := by decide +kernel
theorem dL_law_1056 : decode cL_law 1056 = .ok (.iadd, 1) := by decide +kernel
theorem dL_law_1057 : decode cL_law 1057 = .ok (.iaload, 1) := by decide +kernel
theorem dL_law_1058 : decode cL_law 1058 = .ok (.invokevirtual 93, 3) := by decide +kernel
theorem dL_law_1061 : decode cL_law 1061 = .ok (.lcmp, 1) := by decide +kernel
theorem dL_law_1062 : decode cL_law 1062 = .ok (.ifCond .eq 998, 3) := by decide +kernel
theorem dL_law_1065 : decode cL_law 1065 = .ok (.iconst 0, 1) := by decide +kernel
theorem dL_law_1066 : decode cL_law 1066 = .ok (.ireturn, 1) := by decide +kernel
theorem dL_law_1067 : decode cL_law 1067 = .ok (.aload_n 1, 1) := by decide +kernel
theorem dL_law_1068 : decode cL_law 1068 = .ok (.aload_n 0, 1) := by decide +kernel
theorem dL_law_1069 : decode cL_law 1069 = .ok (.iload_n 3, 1) := by decide +kernel
theorem dL_law_1070 : decode cL_law 1070 = .ok (.iconst 1, 1) := by decide +kernel
theorem dL_law_1071 : decode cL_law 1071 = .ok (.iadd, 1) := by decide +kernel
theorem dL_law_1072 : decode cL_law 1072 = .ok (.iaload, 1) := by decide +kernel
theorem dL_law_1073 : decode cL_law 1073 = .ok (.i2l, 1) := by decide +kernel
theorem dL_law_1074 : decode cL_law 1074 = .ok (.bipush 32, 2) := by decide +kernel
theorem dL_law_1076 : decode cL_law 1076 = .ok (.lshl, 1) := by decide +kernel
theorem dL_law_1077 : decode cL_law 1077 = .ok (.aload_n 0, 1) := by decide +kernel
theorem dL_law_1078 : decode cL_law 1078 = .ok (.iload_n 3, 1) := by decide +kernel
theorem dL_law_1079 : decode cL_law 1079 = .ok (.iconst 2, 1) := by decide +kernel
theorem dL_law_1080 : decode cL_law 1080 = .ok (.iadd, 1) := by decide +kernel
theorem dL_law_1081 : decode cL_law 1081 = .ok (.iaload, 1) := by decide +kernel
theorem dL_law_1082 : decode cL_law 1082 = .ok (.i2l, 1) := by decide +kernel
theorem dL_law_1083 : decode cL_law 1083 = .ok (.ldc2_w 13, 3) := by decide +kernel
theorem dL_law_1086 : decode cL_law 1086 = .ok (.land, 1) := by decide +kernel
theorem dL_law_1087 : decode cL_law 1087 = .ok (.lor, 1) := by decide +kernel
theorem dL_law_1088 : decode cL_law 1088 = .ok (.aload_n 0, 1) := by decide +kernel
theorem dL_law_1089 : decode cL_law 1089 = .ok (.iload_n 3, 1) := by decide +kernel
theorem dL_law_1090 : decode cL_law 1090 = .ok (.iconst 3, 1) := by decide +kernel
theorem dL_law_1091 : decode cL_law 1091 = .ok (.iadd, 1) := by decide +kernel
theorem dL_law_1092 : decode cL_law 1092 = .ok (.iaload, 1) := by decide +kernel
theorem dL_law_1093 : decode cL_law 1093 = .ok (.invokevirtual 94, 3) := by decide +kernel
theorem dL_law_1096 : decode cL_law 1096 = .ok (.aload_n 2, 1) := by decide +kernel
theorem dL_law_1097 : decode cL_law 1097 = .ok (.aload_n 0, 1) := by decide +kernel
theorem dL_law_1098 : decode cL_law 1098 = .ok (.iload_n 3, 1) := by decide +kernel
theorem dL_law_1099 : decode cL_law 1099 = .ok (.iconst 1, 1) := by decide +kernel
theorem dL_law_1100 : decode cL_law 1100 = .ok (.iadd, 1) := by decide +kernel
theorem dL_law_1101 : decode cL_law 1101 = .ok (.iaload, 1) := by decide +kernel
theorem dL_law_1102 : decode cL_law 1102 = .ok (.i2l, 1) := by decide +kernel
theorem dL_law_1103 : decode cL_law 1103 = .ok (.bipush 32, 2) := by decide +kernel
theorem dL_law_1105 : decode cL_law 1105 = .ok (.lshl, 1) := by decide +kernel
theorem dL_law_1106 : decode cL_law 1106 = .ok (.aload_n 0, 1) := by decide +kernel
theorem dL_law_1107 : decode cL_law 1107 = .ok (.iload_n 3, 1) := by decide +kernel
theorem dL_law_1108 : decode cL_law 1108 = .ok (.iconst 2, 1) := by decide +kernel
theorem dL_law_1109 : decode cL_law 1109 = .ok (.iadd, 1) := by decide +kernel
theorem dL_law_1110 : decode cL_law 1110 = .ok (.iaload, 1) := by decide +kernel
theorem dL_law_1111 : decode cL_law 1111 = .ok (.i2l, 1) := by decide +kernel
theorem dL_law_1112 : decode cL_law 1112 = .ok (.ldc2_w 13, 3) := by decide +kernel
theorem dL_law_1115 : decode cL_law 1115 = .ok (.land, 1) := by decide +kernel
theorem dL_law_1116 : decode cL_law 1116 = .ok (.lor, 1) := by decide +kernel
theorem dL_law_1117 : decode cL_law 1117 = .ok (.aload_n 0, 1) := by decide +kernel
theorem dL_law_1118 : decode cL_law 1118 = .ok (.iload_n 3, 1) := by decide +kernel
theorem dL_law_1119 : decode cL_law 1119 = .ok (.iconst 3, 1) := by decide +kernel
theorem dL_law_1120 : decode cL_law 1120 = .ok (.iadd, 1) := by decide +kernel
theorem dL_law_1121 : decode cL_law 1121 = .ok (.iaload, 1) := by decide +kernel
theorem dL_law_1122 : decode cL_law 1122 = .ok (.invokevirtual 97, 3) := by decide +kernel
theorem dL_law_1125 : decode cL_law 1125 = .ok (.lcmp, 1) := by decide +kernel
theorem dL_law_1126 : decode cL_law 1126 = .ok (.ifCond .eq 934, 3) := by decide +kernel
theorem dL_law_1129 : decode cL_law 1129 = .ok (.iconst 0, 1) := by decide +kernel
theorem dL_law_1130 : decode cL_law 1130 = .ok (.ireturn, 1) := by decide +kernel
theorem dL_law_1131 : decode cL_law 1131 = .ok (.aload_n 1, 1) := by decide +kernel
theorem dL_law_1132 : decode cL_law 1132 = .ok (.aload_n 0, 1) := by decide +kernel
theorem dL_law_1133 : decode cL_law 1133 = .ok (.iload_n 3, 1) := by decide +kernel
theorem dL_law_1134 : decode cL_law 1134 = .ok (.iconst 1, 1) := by decide +kernel
theorem dL_law_1135 : decode cL_law 1135 = .ok (.iadd, 1) := by decide +kernel
theorem dL_law_1136 : decode cL_law 1136 = .ok (.iaload, 1) := by decide +kernel
theorem dL_law_1137 : decode cL_law 1137 = .ok (.aload_n 0, 1) := by decide +kernel
theorem dL_law_1138 : decode cL_law 1138 = .ok (.iload_n 3, 1) := by decide +kernel
theorem dL_law_1139 : decode cL_law 1139 = .ok (.iconst 2, 1) := by decide +kernel
theorem dL_law_1140 : decode cL_law 1140 = .ok (.iadd, 1) := by decide +kernel
theorem dL_law_1141 : decode cL_law 1141 = .ok (.iaload, 1) := by decide +kernel
theorem dL_law_1142 : decode cL_law 1142 = .ok (.invokevirtual 98, 3) := by decide +kernel
theorem dL_law_1145 : decode cL_law 1145 = .ok (.aload_n 2, 1) := by decide +kernel
theorem dL_law_1146 : decode cL_law 1146 = .ok (.aload_n 0, 1) := by decide +kernel
theorem dL_law_1147 : decode cL_law 1147 = .ok (.iload_n 3, 1) := by decide +kernel
theorem dL_law_1148 : decode cL_law 1148 = .ok (.iconst 1, 1) := by decide +kernel
theorem dL_law_1149 : decode cL_law 1149 = .ok (.iadd, 1) := by decide +kernel
theorem dL_law_1150 : decode cL_law 1150 = .ok (.iaload, 1) := by decide +kernel
theorem dL_law_1151 : decode cL_law 1151 = .ok (.aload_n 0, 1) := by decide +kernel
theorem dL_law_1152 : decode cL_law 1152 = .ok (.iload_n 3, 1) := by decide +kernel
theorem dL_law_1153 : decode cL_law 1153 = .ok (.iconst 2, 1) := by decide +kernel
theorem dL_law_1154 : decode cL_law 1154 = .ok (.iadd, 1) := by decide +kernel
theorem dL_law_1155 : decode cL_law 1155 = .ok (.iaload, 1) := by decide +kernel
theorem dL_law_1156 : decode cL_law 1156 = .ok (.invokevirtual 102, 3) := by decide +kernel
theorem dL_law_1159 : decode cL_law 1159 = .ok (.lcmp, 1) := by decide +kernel
theorem dL_law_1160 : decode cL_law 1160 = .ok (.ifCond .eq 900, 3) := by decide +kernel
theorem dL_law_1163 : decode cL_law 1163 = .ok (.iconst 0, 1) := by decide +kernel
theorem dL_law_1164 : decode cL_law 1164 = .ok (.ireturn, 1) := by decide +kernel
theorem dL_law_1165 : decode cL_law 1165 = .ok (.aload_n 1, 1) := by decide +kernel
theorem dL_law_1166 : decode cL_law 1166 = .ok (.aload_n 0, 1) := by decide +kernel
theorem dL_law_1167 : decode cL_law 1167 = .ok (.iload_n 3, 1) := by decide +kernel
theorem dL_law_1168 : decode cL_law 1168 = .ok (.iconst 1, 1) := by decide +kernel
theorem dL_law_1169 : decode cL_law 1169 = .ok (.iadd, 1) := by decide +kernel
theorem dL_law_1170 : decode cL_law 1170 = .ok (.iaload, 1) := by decide +kernel
theorem dL_law_1171 : decode cL_law 1171 = .ok (.aload_n 0, 1) := by decide +kernel
theorem dL_law_1172 : decode cL_law 1172 = .ok (.iload_n 3, 1) := by decide +kernel
theorem dL_law_1173 : decode cL_law 1173 = .ok (.iconst 2, 1) := by decide +kernel
theorem dL_law_1174 : decode cL_law 1174 = .ok (.iadd, 1) := by decide +kernel
theorem dL_law_1175 : decode cL_law 1175 = .ok (.iaload, 1) := by decide +kernel
theorem dL_law_1176 : decode cL_law 1176 = .ok (.i2l, 1) := by decide +kernel
theorem dL_law_1177 : decode cL_law 1177 = .ok (.bipush 32, 2) := by decide +kernel
theorem dL_law_1179 : decode cL_law 1179 = .ok (.lshl, 1) := by decide +kernel
theorem dL_law_1180 : decode cL_law 1180 = .ok (.aload_n 0, 1) := by decide +kernel
theorem dL_law_1181 : decode cL_law 1181 = .ok (.iload_n 3, 1) := by decide +kernel
theorem dL_law_1182 : decode cL_law 1182 = .ok (.iconst 3, 1) := by decide +kernel
theorem dL_law_1183 : decode cL_law 1183 = .ok (.iadd, 1) := by decide +kernel
theorem dL_law_1184 : decode cL_law 1184 = .ok (.iaload, 1) := by decide +kernel
theorem dL_law_1185 : decode cL_law 1185 = .ok (.i2l, 1) := by decide +kernel
theorem dL_law_1186 : decode cL_law 1186 = .ok (.ldc2_w 13, 3) := by decide +kernel
theorem dL_law_1189 : decode cL_law 1189 = .ok (.land, 1) := by decide +kernel
theorem dL_law_1190 : decode cL_law 1190 = .ok (.lor, 1) := by decide +kernel
theorem dL_law_1191 : decode cL_law 1191 = .ok (.invokevirtual 103, 3) := by decide +kernel
theorem dL_law_1194 : decode cL_law 1194 = .ok (.aload_n 2, 1) := by decide +kernel
theorem dL_law_1195 : decode cL_law 1195 = .ok (.aload_n 0, 1) := by decide +kernel
theorem dL_law_1196 : decode cL_law 1196 = .ok (.iload_n 3, 1) := by decide +kernel
theorem dL_law_1197 : decode cL_law 1197 = .ok (.iconst 1, 1) := by decide +kernel
theorem dL_law_1198 : decode cL_law 1198 = .ok (.iadd, 1) := by decide +kernel
theorem dL_law_1199 : decode cL_law 1199 = .ok (.iaload, 1) := by decide +kernel
theorem dL_law_1200 : decode cL_law 1200 = .ok (.aload_n 0, 1) := by decide +kernel
theorem dL_law_1201 : decode cL_law 1201 = .ok (.iload_n 3, 1) := by decide +kernel
theorem dL_law_1202 : decode cL_law 1202 = .ok (.iconst 2, 1) := by decide +kernel
theorem dL_law_1203 : decode cL_law 1203 = .ok (.iadd, 1) := by decide +kernel
theorem dL_law_1204 : decode cL_law 1204 = .ok (.iaload, 1) := by decide +kernel
theorem dL_law_1205 : decode cL_law 1205 = .ok (.i2l, 1) := by decide +kernel
theorem dL_law_1206 : decode cL_law 1206 = .ok (.bipush 32, 2) := by decide +kernel
theorem dL_law_1208 : decode cL_law 1208 = .ok (.lshl, 1) := by decide +kernel
theorem dL_law_1209 : decode cL_law 1209 = .ok (.aload_n 0, 1) := by decide +kernel
theorem dL_law_1210 : decode cL_law 1210 = .ok (.iload_n 3, 1) := by decide +kernel
theorem dL_law_1211 : decode cL_law 1211 = .ok (.iconst 3, 1) := by decide +kernel
theorem dL_law_1212 : decode cL_law 1212 = .ok (.iadd, 1) := by decide +kernel
theorem dL_law_1213 : decode cL_law 1213 = .ok (.iaload, 1) := by decide +kernel
theorem dL_law_1214 : decode cL_law 1214 = .ok (.i2l, 1) := by decide +kernel
theorem dL_law_1215 : decode cL_law 1215 = .ok (.ldc2_w 13, 3) := by decide +kernel
theorem dL_law_1218 : decode cL_law 1218 = .ok (.land, 1) := by decide +kernel
theorem dL_law_1219 : decode cL_law 1219 = .ok (.lor, 1) := by decide +kernel
theorem dL_law_1220 : decode cL_law 1220 = .ok (.invokevirtual 106, 3) := by decide +kernel
theorem dL_law_1223 : decode cL_law 1223 = .ok (.if_icmp .eq 837, 3) := by decide +kernel
theorem dL_law_1226 : decode cL_law 1226 = .ok (.iconst 0, 1) := by decide +kernel
theorem dL_law_1227 : decode cL_law 1227 = .ok (.ireturn, 1) := by decide +kernel
theorem dL_law_1228 : decode cL_law 1228 = .ok (.aload_n 1, 1) := by decide +kernel
theorem dL_law_1229 : decode cL_law 1229 = .ok (.aload_n 0, 1) := by decide +kernel
theorem dL_law_1230 : decode cL_law 1230 = .ok (.iload_n 3, 1) := by decide +kernel
theorem dL_law_1231 : decode cL_law 1231 = .ok (.iconst 1, 1) := by decide +kernel
theorem dL_law_1232 : decode cL_law 1232 = .ok (.iadd, 1) := by decide +kernel
theorem dL_law_1233 : decode cL_law 1233 = .ok (.iaload, 1) := by decide +kernel
theorem dL_law_1234 : decode cL_law 1234 = .ok (.i2l, 1) := by decide +kernel
theorem dL_law_1235 : decode cL_law 1235 = .ok (.bipush 32, 2) := by decide +kernel
theorem dL_law_1237 : decode cL_law 1237 = .ok (.lshl, 1) := by decide +kernel
theorem dL_law_1238 : decode cL_law 1238 = .ok (.aload_n 0, 1) := by decide +kernel
theorem dL_law_1239 : decode cL_law 1239 = .ok (.iload_n 3, 1) := by decide +kernel
theorem dL_law_1240 : decode cL_law 1240 = .ok (.iconst 2, 1) := by decide +kernel
theorem dL_law_1241 : decode cL_law 1241 = .ok (.iadd, 1) := by decide +kernel
theorem dL_law_1242 : decode cL_law 1242 = .ok (.iaload, 1) := by decide +kernel
theorem dL_law_1243 : decode cL_law 1243 = .ok (.i2l, 1) := by decide +kernel
theorem dL_law_1244 : decode cL_law 1244 = .ok (.ldc2_w 13, 3) := by decide +kernel
theorem dL_law_1247 : decode cL_law 1247 = .ok (.land, 1) := by decide +kernel
theorem dL_law_1248 : decode cL_law 1248 = .ok (.lor, 1) := by decide +kernel
theorem dL_law_1249 : decode cL_law 1249 = .ok (.aload_n 0, 1) := by decide +kernel
theorem dL_law_1250 : decode cL_law 1250 = .ok (.iload_n 3, 1) := by decide +kernel
theorem dL_law_1251 : decode cL_law 1251 = .ok (.iconst 3, 1) := by decide +kernel
theorem dL_law_1252 : decode cL_law 1252 = .ok (.iadd, 1) := by decide +kernel
theorem dL_law_1253 : decode cL_law 1253 = .ok (.iaload, 1) := by decide +kernel
theorem dL_law_1254 : decode cL_law 1254 = .ok (.invokevirtual 107, 3) := by decide +kernel
theorem dL_law_1257 : decode cL_law 1257 = .ok (.aload_n 2, 1) := by decide +kernel
theorem dL_law_1258 : decode cL_law 1258 = .ok (.aload_n 0, 1) := by decide +kernel
theorem dL_law_1259 : decode cL_law 1259 = .ok (.iload_n 3, 1) := by decide +kernel
theorem dL_law_1260 : decode cL_law 1260 = .ok (.iconst 1, 1) := by decide +kernel
theorem dL_law_1261 : decode cL_law 1261 = .ok (.iadd, 1) := by decide +kernel
theorem dL_law_1262 : decode cL_law 1262 = .ok (.iaload, 1) := by decide +kernel
theorem dL_law_1263 : decode cL_law 1263 = .ok (.i2l, 1) := by decide +kernel
theorem dL_law_1264 : decode cL_law 1264 = .ok (.bipush 32, 2) := by decide +kernel
theorem dL_law_1266 : decode cL_law 1266 = .ok (.lshl, 1) := by decide +kernel
theorem dL_law_1267 : decode cL_law 1267 = .ok (.aload_n 0, 1) := by decide +kernel
theorem dL_law_1268 : decode cL_law 1268 = .ok (.iload_n 3, 1) := by decide +kernel
theorem dL_law_1269 : decode cL_law 1269 = .ok (.iconst 2, 1) := by decide +kernel
theorem dL_law_1270 : decode cL_law 1270 = .ok (.iadd, 1) := by decide +kernel
theorem dL_law_1271 : decode cL_law 1271 = .ok (.iaload, 1) := by decide +kernel
theorem dL_law_1272 : decode cL_law 1272 = .ok (.i2l, 1) := by decide +kernel
theorem dL_law_1273 : decode cL_law 1273 = .ok (.ldc2_w 13, 3) := by decide +kernel
theorem dL_law_1276 : decode cL_law 1276 = .ok (.land, 1) := by decide +kernel
theorem dL_law_1277 : decode cL_law 1277 = .ok (.lor, 1) := by decide +kernel
theorem dL_law_1278 : decode cL_law 1278 = .ok (.aload_n 0, 1) := by decide +kernel
theorem dL_law_1279 : decode cL_law 1279 = .ok (.iload_n 3, 1) := by decide +kernel
theorem dL_law_1280 : decode cL_law 1280 = .ok (.iconst 3, 1) := by decide +kernel
theorem dL_law_1281 : decode cL_law 1281 = .ok (.iadd, 1) := by decide +kernel
theorem dL_law_1282 : decode cL_law 1282 = .ok (.iaload, 1) := by decide +kernel
theorem dL_law_1283 : decode cL_law 1283 = .ok (.invokevirtual 111, 3) := by decide +kernel
theorem dL_law_1286 : decode cL_law 1286 = .ok (.if_icmp .eq 774, 3) := by decide +kernel
theorem dL_law_1289 : decode cL_law 1289 = .ok (.iconst 0, 1) := by decide +kernel
theorem dL_law_1290 : decode cL_law 1290 = .ok (.ireturn, 1) := by decide +kernel
theorem dL_law_1291 : decode cL_law 1291 = .ok (.aload_n 1, 1) := by decide +kernel
theorem dL_law_1292 : decode cL_law 1292 = .ok (.aload_n 0, 1) := by decide +kernel
theorem dL_law_1293 : decode cL_law 1293 = .ok (.iload_n 3, 1) := by decide +kernel
theorem dL_law_1294 : decode cL_law 1294 = .ok (.iconst 1, 1) := by decide +kernel
theorem dL_law_1295 : decode cL_law 1295 = .ok (.iadd, 1) := by decide +kernel
theorem dL_law_1296 : decode cL_law 1296 = .ok (.iaload, 1) := by decide +kernel
theorem dL_law_1297 : decode cL_law 1297 = .ok (.aload_n 0, 1) := by decide +kernel
theorem dL_law_1298 : decode cL_law 1298 = .ok (.iload_n 3, 1) := by decide +kernel
theorem dL_law_1299 : decode cL_law 1299 = .ok (.iconst 2, 1) := by decide +kernel
theorem dL_law_1300 : decode cL_law 1300 = .ok (.iadd, 1) := by decide +kernel
theorem dL_law_1301 : decode cL_law 1301 = .ok (.iaload, 1) := by decide +kernel
theorem dL_law_1302 : decode cL_law 1302 = .ok (.aload_n 0, 1) := by decide +kernel
theorem dL_law_1303 : decode cL_law 1303 = .ok (.iload_n 3, 1) := by decide +kernel
theorem dL_law_1304 : decode cL_law 1304 = .ok (.iconst 3, 1) := by decide +kernel
theorem dL_law_1305 : decode cL_law 1305 = .ok (.iadd, 1) := by decide +kernel
theorem dL_law_1306 : decode cL_law 1306 = .ok (.iaload, 1) := by decide +kernel
theorem dL_law_1307 : decode cL_law 1307 = .ok (.invokevirtual 112, 3) := by decide +kernel
theorem dL_law_1310 : decode cL_law 1310 = .ok (.aload_n 2, 1) := by decide +kernel
theorem dL_law_1311 : decode cL_law 1311 = .ok (.aload_n 0, 1) := by decide +kernel
theorem dL_law_1312 : decode cL_law 1312 = .ok (.iload_n 3, 1) := by decide +kernel
theorem dL_law_1313 : decode cL_law 1313 = .ok (.iconst 1, 1) := by decide +kernel
theorem dL_law_1314 : decode cL_law 1314 = .ok (.iadd, 1) := by decide +kernel
theorem dL_law_1315 : decode cL_law 1315 = .ok (.iaload, 1) := by decide +kernel
theorem dL_law_1316 : decode cL_law 1316 = .ok (.aload_n 0, 1) := by decide +kernel
theorem dL_law_1317 : decode cL_law 1317 = .ok (.iload_n 3, 1) := by decide +kernel
theorem dL_law_1318 : decode cL_law 1318 = .ok (.iconst 2, 1) := by decide +kernel
theorem dL_law_1319 : decode cL_law 1319 = .ok (.iadd, 1) := by decide +kernel
theorem dL_law_1320 : decode cL_law 1320 = .ok (.iaload, 1) := by decide +kernel
theorem dL_law_1321 : decode cL_law 1321 = .ok (.aload_n 0, 1) := by decide +kernel
theorem dL_law_1322 : decode cL_law 1322 = .ok (.iload_n 3, 1) := by decide +kernel
theorem dL_law_1323 : decode cL_law 1323 = .ok (.iconst 3, 1) := by decide +kernel
theorem dL_law_1324 : decode cL_law 1324 = .ok (.iadd, 1) := by decide +kernel
theorem dL_law_1325 : decode cL_law 1325 = .ok (.iaload, 1) := by decide +kernel
theorem dL_law_1326 : decode cL_law 1326 = .ok (.invokevirtual 116, 3) := by decide +kernel
theorem dL_law_1329 : decode cL_law 1329 = .ok (.if_icmp .eq 731, 3) := by decide +kernel
theorem dL_law_1332 : decode cL_law 1332 = .ok (.iconst 0, 1) := by decide +kernel
theorem dL_law_1333 : decode cL_law 1333 = .ok (.ireturn, 1) := by decide +kernel
theorem dL_law_1334 : decode cL_law 1334 = .ok (.aload_n 1, 1) := by decide +kernel
theorem dL_law_1335 : decode cL_law 1335 = .ok (.aload_n 0, 1) := by decide +kernel
theorem dL_law_1336 : decode cL_law 1336 = .ok (.iload_n 3, 1) := by decide +kernel
theorem dL_law_1337 : decode cL_law 1337 = .ok (.iconst 1, 1) := by decide +kernel
theorem dL_law_1338 : decode cL_law 1338 = .ok (.iadd, 1) := by decide +kernel
theorem dL_law_1339 : decode cL_law 1339 = .ok (.iaload, 1) := by decide +kernel
theorem dL_law_1340 : decode cL_law 1340 = .ok (.aload_n 0, 1) := by decide +kernel
theorem dL_law_1341 : decode cL_law 1341 = .ok (.iload_n 3, 1) := by decide +kernel
theorem dL_law_1342 : decode cL_law 1342 = .ok (.iconst 2, 1) := by decide +kernel
theorem dL_law_1343 : decode cL_law 1343 = .ok (.iadd, 1) := by decide +kernel
theorem dL_law_1344 : decode cL_law 1344 = .ok (.iaload, 1) := by decide +kernel
theorem dL_law_1345 : decode cL_law 1345 = .ok (.invokevirtual 117, 3) := by decide +kernel
theorem dL_law_1348 : decode cL_law 1348 = .ok (.aload_n 2, 1) := by decide +kernel
theorem dL_law_1349 : decode cL_law 1349 = .ok (.aload_n 0, 1) := by decide +kernel
theorem dL_law_1350 : decode cL_law 1350 = .ok (.iload_n 3, 1) := by decide +kernel
theorem dL_law_1351 : decode cL_law 1351 = .ok (.iconst 1, 1) := by decide +kernel
theorem dL_law_1352 : decode cL_law 1352 = .ok (.iadd, 1) := by decide +kernel
theorem dL_law_1353 : decode cL_law 1353 = .ok (.iaload, 1) := by decide +kernel
theorem dL_law_1354 : decode cL_law 1354 = .ok (.aload_n 0, 1) := by decide +kernel
theorem dL_law_1355 : decode cL_law 1355 = .ok (.iload_n 3, 1) := by decide +kernel
theorem dL_law_1356 : decode cL_law 1356 = .ok (.iconst 2, 1) := by decide +kernel
theorem dL_law_1357 : decode cL_law 1357 = .ok (.iadd, 1) := by decide +kernel
theorem dL_law_1358 : decode cL_law 1358 = .ok (.iaload, 1) := by decide +kernel
theorem dL_law_1359 : decode cL_law 1359 = .ok (.invokevirtual 120, 3) := by decide +kernel
theorem dL_law_1362 : decode cL_law 1362 = .ok (.if_icmp .eq 698, 3) := by decide +kernel
theorem dL_law_1365 : decode cL_law 1365 = .ok (.iconst 0, 1) := by decide +kernel
theorem dL_law_1366 : decode cL_law 1366 = .ok (.ireturn, 1) := by decide +kernel
theorem dL_law_1367 : decode cL_law 1367 = .ok (.aload_n 1, 1) := by decide +kernel
theorem dL_law_1368 : decode cL_law 1368 = .ok (.aload_n 0, 1) := by decide +kernel
theorem dL_law_1369 : decode cL_law 1369 = .ok (.iload_n 3, 1) := by decide +kernel
theorem dL_law_1370 : decode cL_law 1370 = .ok (.iconst 1, 1) := by decide +kernel
theorem dL_law_1371 : decode cL_law 1371 = .ok (.iadd, 1) := by decide +kernel
theorem dL_law_1372 : decode cL_law 1372 = .ok (.iaload, 1) := by decide +kernel
theorem dL_law_1373 : decode cL_law 1373 = .ok (.invokevirtual 121, 3) := by decide +kernel
theorem dL_law_1376 : decode cL_law 1376 = .ok (.aload_n 2, 1) := by decide +kernel
theorem dL_law_1377 : decode cL_law 1377 = .ok (.aload_n 0, 1) := by decide +kernel
theorem dL_law_1378 : decode cL_law 1378 = .ok (.iload_n 3, 1) := by decide +kernel
theorem dL_law_1379 : decode cL_law 1379 = .ok (.iconst 1, 1) := by decide +kernel
theorem dL_law_1380 : decode cL_law 1380 = .ok (.iadd, 1) := by decide +kernel
theorem dL_law_1381 : decode cL_law 1381 = .ok (.iaload, 1) := by decide +kernel
theorem dL_law_1382 : decode cL_law 1382 = .ok (.invokevirtual 124, 3) := by decide +kernel
theorem dL_law_1385 : decode cL_law 1385 = .ok (.if_icmp .eq 675, 3) := by decide +kernel
theorem dL_law_1388 : decode cL_law 1388 = .ok (.iconst 0, 1) := by decide +kernel
theorem dL_law_1389 : decode cL_law 1389 = .ok (.ireturn, 1) := by decide +kernel
theorem dL_law_1390 : decode cL_law 1390 = .ok (.aload_n 1, 1) := by decide +kernel
theorem dL_law_1391 : decode cL_law 1391 = .ok (.aload_n 0, 1) := by decide +kernel
theorem dL_law_1392 : decode cL_law 1392 = .ok (.iload_n 3, 1) := by decide +kernel
theorem dL_law_1393 : decode cL_law 1393 = .ok (.iconst 1, 1) := by decide +kernel
theorem dL_law_1394 : decode cL_law 1394 = .ok (.iadd, 1) := by decide +kernel
theorem dL_law_1395 : decode cL_law 1395 = .ok (.iaload, 1) := by decide +kernel
theorem dL_law_1396 : decode cL_law 1396 = .ok (.aload_n 0, 1) := by decide +kernel
theorem dL_law_1397 : decode cL_law 1397 = .ok (.iload_n 3, 1) := by decide +kernel
theorem dL_law_1398 : decode cL_law 1398 = .ok (.iconst 2, 1) := by decide +kernel
theorem dL_law_1399 : decode cL_law 1399 = .ok (.iadd, 1) := by decide +kernel
theorem dL_law_1400 : decode cL_law 1400 = .ok (.iaload, 1) := by decide +kernel
theorem dL_law_1401 : decode cL_law 1401 = .ok (.aload_n 0, 1) := by decide +kernel
theorem dL_law_1402 : decode cL_law 1402 = .ok (.iload_n 3, 1) := by decide +kernel
theorem dL_law_1403 : decode cL_law 1403 = .ok (.iconst 3, 1) := by decide +kernel
theorem dL_law_1404 : decode cL_law 1404 = .ok (.iadd, 1) := by decide +kernel
theorem dL_law_1405 : decode cL_law 1405 = .ok (.iaload, 1) := by decide +kernel
theorem dL_law_1406 : decode cL_law 1406 = .ok (.invokevirtual 125, 3) := by decide +kernel
theorem dL_law_1409 : decode cL_law 1409 = .ok (.aload_n 2, 1) := by decide +kernel
theorem dL_law_1410 : decode cL_law 1410 = .ok (.aload_n 0, 1) := by decide +kernel
theorem dL_law_1411 : decode cL_law 1411 = .ok (.iload_n 3, 1) := by decide +kernel
theorem dL_law_1412 : decode cL_law 1412 = .ok (.iconst 1, 1) := by decide +kernel
theorem dL_law_1413 : decode cL_law 1413 = .ok (.iadd, 1) := by decide +kernel
theorem dL_law_1414 : decode cL_law 1414 = .ok (.iaload, 1) := by decide +kernel
theorem dL_law_1415 : decode cL_law 1415 = .ok (.aload_n 0, 1) := by decide +kernel
theorem dL_law_1416 : decode cL_law 1416 = .ok (.iload_n 3, 1) := by decide +kernel
theorem dL_law_1417 : decode cL_law 1417 = .ok (.iconst 2, 1) := by decide +kernel
theorem dL_law_1418 : decode cL_law 1418 = .ok (.iadd, 1) := by decide +kernel
theorem dL_law_1419 : decode cL_law 1419 = .ok (.iaload, 1) := by decide +kernel
theorem dL_law_1420 : decode cL_law 1420 = .ok (.aload_n 0, 1) := by decide +kernel
theorem dL_law_1421 : decode cL_law 1421 = .ok (.iload_n 3, 1) := by decide +kernel
theorem dL_law_1422 : decode cL_law 1422 = .ok (.iconst 3, 1) := by decide +kernel
theorem dL_law_1423 : decode cL_law 1423 = .ok (.iadd, 1) := by decide +kernel
theorem dL_law_1424 : decode cL_law 1424 = .ok (.iaload, 1) := by decide +kernel
theorem dL_law_1425 : decode cL_law 1425 = .ok (.invokevirtual 128, 3) := by decide +kernel
theorem dL_law_1428 : decode cL_law 1428 = .ok (.if_icmp .eq 632, 3) := by decide +kernel
theorem dL_law_1431 : decode cL_law 1431 = .ok (.iconst 0, 1) := by decide +kernel
theorem dL_law_1432 : decode cL_law 1432 = .ok (.ireturn, 1) := by decide +kernel
theorem dL_law_1433 : decode cL_law 1433 = .ok (.aload_n 1, 1) := by decide +kernel
theorem dL_law_1434 : decode cL_law 1434 = .ok (.aload_n 0, 1) := by decide +kernel
theorem dL_law_1435 : decode cL_law 1435 = .ok (.iload_n 3, 1) := by decide +kernel
theorem dL_law_1436 : decode cL_law 1436 = .ok (.iconst 1, 1) := by decide +kernel
theorem dL_law_1437 : decode cL_law 1437 = .ok (.iadd, 1) := by decide +kernel
theorem dL_law_1438 : decode cL_law 1438 = .ok (.iaload, 1) := by decide +kernel
theorem dL_law_1439 : decode cL_law 1439 = .ok (.invokevirtual 129, 3) := by decide +kernel
theorem dL_law_1442 : decode cL_law 1442 = .ok (.aload_n 2, 1) := by decide +kernel
theorem dL_law_1443 : decode cL_law 1443 = .ok (.aload_n 0, 1) := by decide +kernel
theorem dL_law_1444 : decode cL_law 1444 = .ok (.iload_n 3, 1) := by decide +kernel
theorem dL_law_1445 : decode cL_law 1445 = .ok (.iconst 1, 1) := by decide +kernel
theorem dL_law_1446 : decode cL_law 1446 = .ok (.iadd, 1) := by decide +kernel
theorem dL_law_1447 : decode cL_law 1447 = .ok (.iaload, 1) := by decide +kernel
theorem dL_law_1448 : decode cL_law 1448 = .ok (.invokevirtual 132, 3) := by decide +kernel
theorem dL_law_1451 : decode cL_law 1451 = .ok (.if_icmp .eq 609, 3) := by decide +kernel
theorem dL_law_1454 : decode cL_law 1454 = .ok (.iconst 0, 1) := by decide +kernel
theorem dL_law_1455 : decode cL_law 1455 = .ok (.ireturn, 1) := by decide +kernel
theorem dL_law_1456 : decode cL_law 1456 = .ok (.aload_n 1, 1) := by decide +kernel
theorem dL_law_1457 : decode cL_law 1457 = .ok (.aload_n 0, 1) := by decide +kernel
theorem dL_law_1458 : decode cL_law 1458 = .ok (.iload_n 3, 1) := by decide +kernel
theorem dL_law_1459 : decode cL_law 1459 = .ok (.iconst 1, 1) := by decide +kernel
theorem dL_law_1460 : decode cL_law 1460 = .ok (.iadd, 1) := by decide +kernel
theorem dL_law_1461 : decode cL_law 1461 = .ok (.iaload, 1) := by decide +kernel
theorem dL_law_1462 : decode cL_law 1462 = .ok (.invokevirtual 133, 3) := by decide +kernel
theorem dL_law_1465 : decode cL_law 1465 = .ok (.aload_n 2, 1) := by decide +kernel
theorem dL_law_1466 : decode cL_law 1466 = .ok (.aload_n 0, 1) := by decide +kernel
theorem dL_law_1467 : decode cL_law 1467 = .ok (.iload_n 3, 1) := by decide +kernel
theorem dL_law_1468 : decode cL_law 1468 = .ok (.iconst 1, 1) := by decide +kernel
theorem dL_law_1469 : decode cL_law 1469 = .ok (.iadd, 1) := by decide +kernel
theorem dL_law_1470 : decode cL_law 1470 = .ok (.iaload, 1) := by decide +kernel
theorem dL_law_1471 : decode cL_law 1471 = .ok (.invokevirtual 136, 3) := by decide +kernel
theorem dL_law_1474 : decode cL_law 1474 = .ok (.if_icmp .eq 586, 3) := by decide +kernel
theorem dL_law_1477 : decode cL_law 1477 = .ok (.iconst 0, 1) := by decide +kernel
theorem dL_law_1478 : decode cL_law 1478 = .ok (.ireturn, 1) := by decide +kernel
theorem dL_law_1479 : decode cL_law 1479 = .ok (.aload_n 1, 1) := by decide +kernel
theorem dL_law_1480 : decode cL_law 1480 = .ok (.aload_n 0, 1) := by decide +kernel
theorem dL_law_1481 : decode cL_law 1481 = .ok (.iload_n 3, 1) := by decide +kernel
theorem dL_law_1482 : decode cL_law 1482 = .ok (.iconst 1, 1) := by decide +kernel
theorem dL_law_1483 : decode cL_law 1483 = .ok (.iadd, 1) := by decide +kernel
theorem dL_law_1484 : decode cL_law 1484 = .ok (.iaload, 1) := by decide +kernel
theorem dL_law_1485 : decode cL_law 1485 = .ok (.aload_n 0, 1) := by decide +kernel
theorem dL_law_1486 : decode cL_law 1486 = .ok (.iload_n 3, 1) := by decide +kernel
theorem dL_law_1487 : decode cL_law 1487 = .ok (.iconst 2, 1) := by decide +kernel
theorem dL_law_1488 : decode cL_law 1488 = .ok (.iadd, 1) := by decide +kernel
theorem dL_law_1489 : decode cL_law 1489 = .ok (.iaload, 1) := by decide +kernel
theorem dL_law_1490 : decode cL_law 1490 = .ok (.aload_n 0, 1) := by decide +kernel
theorem dL_law_1491 : decode cL_law 1491 = .ok (.iload_n 3, 1) := by decide +kernel
theorem dL_law_1492 : decode cL_law 1492 = .ok (.iconst 3, 1) := by decide +kernel
theorem dL_law_1493 : decode cL_law 1493 = .ok (.iadd, 1) := by decide +kernel
theorem dL_law_1494 : decode cL_law 1494 = .ok (.iaload, 1) := by decide +kernel
theorem dL_law_1495 : decode cL_law 1495 = .ok (.aload_n 0, 1) := by decide +kernel
theorem dL_law_1496 : decode cL_law 1496 = .ok (.iload_n 3, 1) := by decide +kernel
theorem dL_law_1497 : decode cL_law 1497 = .ok (.iconst 4, 1) := by decide +kernel
theorem dL_law_1498 : decode cL_law 1498 = .ok (.iadd, 1) := by decide +kernel
theorem dL_law_1499 : decode cL_law 1499 = .ok (.iaload, 1) := by decide +kernel
theorem dL_law_1500 : decode cL_law 1500 = .ok (.aload_n 0, 1) := by decide +kernel
theorem dL_law_1501 : decode cL_law 1501 = .ok (.iload_n 3, 1) := by decide +kernel
theorem dL_law_1502 : decode cL_law 1502 = .ok (.iconst 5, 1) := by decide +kernel
theorem dL_law_1503 : decode cL_law 1503 = .ok (.iadd, 1) := by decide +kernel
theorem dL_law_1504 : decode cL_law 1504 = .ok (.iaload, 1) := by decide +kernel
theorem dL_law_1505 : decode cL_law 1505 = .ok (.invokevirtual 137, 3) := by decide +kernel
theorem dL_law_1508 : decode cL_law 1508 = .ok (.aload_n 2, 1) := by decide +kernel
theorem dL_law_1509 : decode cL_law 1509 = .ok (.aload_n 0, 1) := by decide +kernel
theorem dL_law_1510 : decode cL_law 1510 = .ok (.iload_n 3, 1) := by decide +kernel
theorem dL_law_1511 : decode cL_law 1511 = .ok (.iconst 1, 1) := by decide +kernel
theorem dL_law_1512 : decode cL_law 1512 = .ok (.iadd, 1) := by decide +kernel
theorem dL_law_1513 : decode cL_law 1513 = .ok (.iaload, 1) := by decide +kernel
theorem dL_law_1514 : decode cL_law 1514 = .ok (.aload_n 0, 1) := by decide +kernel
theorem dL_law_1515 : decode cL_law 1515 = .ok (.iload_n 3, 1) := by decide +kernel
theorem dL_law_1516 : decode cL_law 1516 = .ok (.iconst 2, 1) := by decide +kernel
theorem dL_law_1517 : decode cL_law 1517 = .ok (.iadd, 1) := by decide +kernel
theorem dL_law_1518 : decode cL_law 1518 = .ok (.iaload, 1) := by decide +kernel
theorem dL_law_1519 : decode cL_law 1519 = .ok (.aload_n 0, 1) := by decide +kernel
theorem dL_law_1520 : decode cL_law 1520 = .ok (.iload_n 3, 1) := by decide +kernel
theorem dL_law_1521 : decode cL_law 1521 = .ok (.iconst 3, 1) := by decide +kernel
theorem dL_law_1522 : decode cL_law 1522 = .ok (.iadd, 1) := by decide +kernel
theorem dL_law_1523 : decode cL_law 1523 = .ok (.iaload, 1) := by decide +kernel
theorem dL_law_1524 : decode cL_law 1524 = .ok (.aload_n 0, 1) := by decide +kernel
theorem dL_law_1525 : decode cL_law 1525 = .ok (.iload_n 3, 1) := by decide +kernel
theorem dL_law_1526 : decode cL_law 1526 = .ok (.iconst 4, 1) := by decide +kernel
theorem dL_law_1527 : decode cL_law 1527 = .ok (.iadd, 1) := by decide +kernel
theorem dL_law_1528 : decode cL_law 1528 = .ok (.iaload, 1) := by decide +kernel
theorem dL_law_1529 : decode cL_law 1529 = .ok (.aload_n 0, 1) := by decide +kernel
theorem dL_law_1530 : decode cL_law 1530 = .ok (.iload_n 3, 1) := by decide +kernel
theorem dL_law_1531 : decode cL_law 1531 = .ok (.iconst 5, 1) := by decide +kernel
theorem dL_law_1532 : decode cL_law 1532 = .ok (.iadd, 1) := by decide +kernel
theorem dL_law_1533 : decode cL_law 1533 = .ok (.iaload, 1) := by decide +kernel
theorem dL_law_1534 : decode cL_law 1534 = .ok (.invokevirtual 141, 3) := by decide +kernel
theorem dL_law_1537 : decode cL_law 1537 = .ok (.if_icmp .eq 523, 3) := by decide +kernel
theorem dL_law_1540 : decode cL_law 1540 = .ok (.iconst 0, 1) := by decide +kernel
theorem dL_law_1541 : decode cL_law 1541 = .ok (.ireturn, 1) := by decide +kernel
theorem dL_law_1542 : decode cL_law 1542 = .ok (.aload_n 1, 1) := by decide +kernel
theorem dL_law_1543 : decode cL_law 1543 = .ok (.aload_n 0, 1) := by decide +kernel
theorem dL_law_1544 : decode cL_law 1544 = .ok (.iload_n 3, 1) := by decide +kernel
theorem dL_law_1545 : decode cL_law 1545 = .ok (.iconst 1, 1) := by decide +kernel
theorem dL_law_1546 : decode cL_law 1546 = .ok (.iadd, 1) := by decide +kernel
theorem dL_law_1547 : decode cL_law 1547 = .ok (.iaload, 1) := by decide +kernel
theorem dL_law_1548 : decode cL_law 1548 = .ok (.aload_n 0, 1) := by decide +kernel
theorem dL_law_1549 : decode cL_law 1549 = .ok (.iload_n 3, 1) := by decide +kernel
theorem dL_law_1550 : decode cL_law 1550 = .ok (.iconst 2, 1) := by decide +kernel
theorem dL_law_1551 : decode cL_law 1551 = .ok (.iadd, 1) := by decide +kernel
theorem dL_law_1552 : decode cL_law 1552 = .ok (.iaload, 1) := by decide +kernel
theorem dL_law_1553 : decode cL_law 1553 = .ok (.aload_n 0, 1) := by decide +kernel
theorem dL_law_1554 : decode cL_law 1554 = .ok (.iload_n 3, 1) := by decide +kernel
theorem dL_law_1555 : decode cL_law 1555 = .ok (.iconst 3, 1) := by decide +kernel
theorem dL_law_1556 : decode cL_law 1556 = .ok (.iadd, 1) := by decide +kernel
theorem dL_law_1557 : decode cL_law 1557 = .ok (.iaload, 1) := by decide +kernel
theorem dL_law_1558 : decode cL_law 1558 = .ok (.ifCond .eq 7, 3) := by decide +kernel
theorem dL_law_1561 : decode cL_law 1561 = .ok (.iconst 1, 1) := by decide +kernel
theorem dL_law_1562 : decode cL_law 1562 = .ok (.goto 4, 3) := by decide +kernel
theorem dL_law_1565 : decode cL_law 1565 = .ok (.iconst 0, 1) := by decide +kernel
theorem dL_law_1566 : decode cL_law 1566 = .ok (.invokevirtual 142, 3) := by decide +kernel
theorem dL_law_1569 : decode cL_law 1569 = .ok (.aload_n 2, 1) := by decide +kernel
theorem dL_law_1570 : decode cL_law 1570 = .ok (.aload_n 0, 1) := by decide +kernel
theorem dL_law_1571 : decode cL_law 1571 = .ok (.iload_n 3, 1) := by decide +kernel
theorem dL_law_1572 : decode cL_law 1572 = .ok (.iconst 1, 1) := by decide +kernel
theorem dL_law_1573 : decode cL_law 1573 = .ok (.iadd, 1) := by decide +kernel
theorem dL_law_1574 : decode cL_law 1574 = .ok (.iaload, 1) := by decide +kernel
theorem dL_law_1575 : decode cL_law 1575 = .ok (.aload_n 0, 1) := by decide +kernel
theorem dL_law_1576 : decode cL_law 1576 = .ok (.iload_n 3, 1) := by decide +kernel
theorem dL_law_1577 : decode cL_law 1577 = .ok (.iconst 2, 1) := by decide +kernel
theorem dL_law_1578 : decode cL_law 1578 = .ok (.iadd, 1) := by decide +kernel
theorem dL_law_1579 : decode cL_law 1579 = .ok (.iaload, 1) := by decide +kernel
theorem dL_law_1580 : decode cL_law 1580 = .ok (.aload_n 0, 1) := by decide +kernel
theorem dL_law_1581 : decode cL_law 1581 = .ok (.iload_n 3, 1) := by decide +kernel
theorem dL_law_1582 : decode cL_law 1582 = .ok (.iconst 3, 1) := by decide +kernel
theorem dL_law_1583 : decode cL_law 1583 = .ok (.iadd, 1) := by decide +kernel
theorem dL_law_1584 : decode cL_law 1584 = .ok (.iaload, 1) := by decide +kernel
theorem dL_law_1585 : decode cL_law 1585 = .ok (.ifCond .eq 7, 3) := by decide +kernel
theorem dL_law_1588 : decode cL_law 1588 = .ok (.iconst 1, 1) := by decide +kernel
theorem dL_law_1589 : decode cL_law 1589 = .ok (.goto 4, 3) := by decide +kernel
theorem dL_law_1592 : decode cL_law 1592 = .ok (.iconst 0, 1) := by decide +kernel
theorem dL_law_1593 : decode cL_law 1593 = .ok (.invokevirtual 146, 3) := by decide +kernel
theorem dL_law_1596 : decode cL_law 1596 = .ok (.if_icmp .eq 464, 3) := by decide +kernel
theorem dL_law_1599 : decode cL_law 1599 = .ok (.iconst 0, 1) := by decide +kernel
theorem dL_law_1600 : decode cL_law 1600 = .ok (.ireturn, 1) := by decide +kernel
theorem dL_law_1601 : decode cL_law 1601 = .ok (.aload_n 1, 1) := by decide +kernel
theorem dL_law_1602 : decode cL_law 1602 = .ok (.aload_n 0, 1) := by decide +kernel
theorem dL_law_1603 : decode cL_law 1603 = .ok (.iload_n 3, 1) := by decide +kernel
theorem dL_law_1604 : decode cL_law 1604 = .ok (.iconst 1, 1) := by decide +kernel
theorem dL_law_1605 : decode cL_law 1605 = .ok (.iadd, 1) := by decide +kernel
theorem dL_law_1606 : decode cL_law 1606 = .ok (.iaload, 1) := by decide +kernel
theorem dL_law_1607 : decode cL_law 1607 = .ok (.invokevirtual 147, 3) := by decide +kernel
theorem dL_law_1610 : decode cL_law 1610 = .ok (.aload_n 2, 1) := by decide +kernel
theorem dL_law_1611 : decode cL_law 1611 = .ok (.aload_n 0, 1) := by decide +kernel
theorem dL_law_1612 : decode cL_law 1612 = .ok (.iload_n 3, 1) := by decide +kernel
theorem dL_law_1613 : decode cL_law 1613 = .ok (.iconst 1, 1) := by decide +kernel
theorem dL_law_1614 : decode cL_law 1614 = .ok (.iadd, 1) := by decide +kernel
theorem dL_law_1615 : decode cL_law 1615 = .ok (.iaload, 1) := by decide +kernel
theorem dL_law_1616 : decode cL_law 1616 = .ok (.invokevirtual 150, 3) := by decide +kernel
theorem dL_law_1619 : decode cL_law 1619 = .ok (.if_icmp .eq 441, 3) := by decide +kernel
theorem dL_law_1622 : decode cL_law 1622 = .ok (.iconst 0, 1) := by decide +kernel
theorem dL_law_1623 : decode cL_law 1623 = .ok (.ireturn, 1) := by decide +kernel
theorem dL_law_1624 : decode cL_law 1624 = .ok (.aload_n 1, 1) := by decide +kernel
theorem dL_law_1625 : decode cL_law 1625 = .ok (.aload_n 0, 1) := by decide +kernel
theorem dL_law_1626 : decode cL_law 1626 = .ok (.iload_n 3, 1) := by decide +kernel
theorem dL_law_1627 : decode cL_law 1627 = .ok (.iconst 1, 1) := by decide +kernel
theorem dL_law_1628 : decode cL_law 1628 = .ok (.iadd, 1) := by decide +kernel
theorem dL_law_1629 : decode cL_law 1629 = .ok (.iaload, 1) := by decide +kernel
theorem dL_law_1630 : decode cL_law 1630 = .ok (.invokevirtual 151, 3) := by decide +kernel
theorem dL_law_1633 : decode cL_law 1633 = .ok (.aload_n 2, 1) := by decide +kernel
theorem dL_law_1634 : decode cL_law 1634 = .ok (.aload_n 0, 1) := by decide +kernel
theorem dL_law_1635 : decode cL_law 1635 = .ok (.iload_n 3, 1) := by decide +kernel
theorem dL_law_1636 : decode cL_law 1636 = .ok (.iconst 1, 1) := by decide +kernel
theorem dL_law_1637 : decode cL_law 1637 = .ok (.iadd, 1) := by decide +kernel
theorem dL_law_1638 : decode cL_law 1638 = .ok (.iaload, 1) := by decide +kernel
theorem dL_law_1639 : decode cL_law 1639 = .ok (.invokevirtual 154, 3) := by decide +kernel
theorem dL_law_1642 : decode cL_law 1642 = .ok (.if_icmp .eq 418, 3) := by decide +kernel
theorem dL_law_1645 : decode cL_law 1645 = .ok (.iconst 0, 1) := by decide +kernel
theorem dL_law_1646 : decode cL_law 1646 = .ok (.ireturn, 1) := by decide +kernel
theorem dL_law_1647 : decode cL_law 1647 = .ok (.aload_n 1, 1) := by decide +kernel
theorem dL_law_1648 : decode cL_law 1648 = .ok (.aload_n 0, 1) := by decide +kernel
theorem dL_law_1649 : decode cL_law 1649 = .ok (.iload_n 3, 1) := by decide +kernel
theorem dL_law_1650 : decode cL_law 1650 = .ok (.iconst 1, 1) := by decide +kernel
theorem dL_law_1651 : decode cL_law 1651 = .ok (.iadd, 1) := by decide +kernel
theorem dL_law_1652 : decode cL_law 1652 = .ok (.iaload, 1) := by decide +kernel
theorem dL_law_1653 : decode cL_law 1653 = .ok (.aload_n 0, 1) := by decide +kernel
theorem dL_law_1654 : decode cL_law 1654 = .ok (.iload_n 3, 1) := by decide +kernel
theorem dL_law_1655 : decode cL_law 1655 = .ok (.iconst 2, 1) := by decide +kernel
theorem dL_law_1656 : decode cL_law 1656 = .ok (.iadd, 1) := by decide +kernel
theorem dL_law_1657 : decode cL_law 1657 = .ok (.iaload, 1) := by decide +kernel
theorem dL_law_1658 : decode cL_law 1658 = .ok (.invokevirtual 155, 3) := by decide +kernel
theorem dL_law_1661 : decode cL_law 1661 = .ok (.aload_n 2, 1) := by decide +kernel
theorem dL_law_1662 : decode cL_law 1662 = .ok (.aload_n 0, 1) := by decide +kernel
theorem dL_law_1663 : decode cL_law 1663 = .ok (.iload_n 3, 1) := by decide +kernel
theorem dL_law_1664 : decode cL_law 1664 = .ok (.iconst 1, 1) := by decide +kernel
theorem dL_law_1665 : decode cL_law 1665 = .ok (.iadd, 1) := by decide +kernel
theorem dL_law_1666 : decode cL_law 1666 = .ok (.iaload, 1) := by decide +kernel
theorem dL_law_1667 : decode cL_law 1667 = .ok (.aload_n 0, 1) := by decide +kernel
theorem dL_law_1668 : decode cL_law 1668 = .ok (.iload_n 3, 1) := by decide +kernel
theorem dL_law_1669 : decode cL_law 1669 = .ok (.iconst 2, 1) := by decide +kernel
theorem dL_law_1670 : decode cL_law 1670 = .ok (.iadd, 1) := by decide +kernel
theorem dL_law_1671 : decode cL_law 1671 = .ok (.iaload, 1) := by decide +kernel
theorem dL_law_1672 : decode cL_law 1672 = .ok (.invokevirtual 158, 3) := by decide +kernel
theorem dL_law_1675 : decode cL_law 1675 = .ok (.if_icmp .eq 385, 3) := by decide +kernel
theorem dL_law_1678 : decode cL_law 1678 = .ok (.iconst 0, 1) := by decide +kernel
theorem dL_law_1679 : decode cL_law 1679 = .ok (.ireturn, 1) := by decide +kernel
theorem dL_law_1680 : decode cL_law 1680 = .ok (.aload_n 1, 1) := by decide +kernel
theorem dL_law_1681 : decode cL_law 1681 = .ok (.aload_n 0, 1) := by decide +kernel
theorem dL_law_1682 : decode cL_law 1682 = .ok (.iload_n 3, 1) := by decide +kernel
theorem dL_law_1683 : decode cL_law 1683 = .ok (.iconst 1, 1) := by decide +kernel
theorem dL_law_1684 : decode cL_law 1684 = .ok (.iadd, 1) := by decide +kernel
theorem dL_law_1685 : decode cL_law 1685 = .ok (.iaload, 1) := by decide +kernel
theorem dL_law_1686 : decode cL_law 1686 = .ok (.invokevirtual 159, 3) := by decide +kernel
theorem dL_law_1689 : decode cL_law 1689 = .ok (.aload_n 2, 1) := by decide +kernel
theorem dL_law_1690 : decode cL_law 1690 = .ok (.aload_n 0, 1) := by decide +kernel
theorem dL_law_1691 : decode cL_law 1691 = .ok (.iload_n 3, 1) := by decide +kernel
theorem dL_law_1692 : decode cL_law 1692 = .ok (.iconst 1, 1) := by decide +kernel
theorem dL_law_1693 : decode cL_law 1693 = .ok (.iadd, 1) := by decide +kernel
theorem dL_law_1694 : decode cL_law 1694 = .ok (.iaload, 1) := by decide +kernel
theorem dL_law_1695 : decode cL_law 1695 = .ok (.invokevirtual 162, 3) := by decide +kernel
theorem dL_law_1698 : decode cL_law 1698 = .ok (.if_icmp .eq 362, 3) := by decide +kernel
theorem dL_law_1701 : decode cL_law 1701 = .ok (.iconst 0, 1) := by decide +kernel
theorem dL_law_1702 : decode cL_law 1702 = .ok (.ireturn, 1) := by decide +kernel
theorem dL_law_1703 : decode cL_law 1703 = .ok (.aload_n 1, 1) := by decide +kernel
theorem dL_law_1704 : decode cL_law 1704 = .ok (.aload_n 0, 1) := by decide +kernel
theorem dL_law_1705 : decode cL_law 1705 = .ok (.iload_n 3, 1) := by decide +kernel
theorem dL_law_1706 : decode cL_law 1706 = .ok (.iconst 1, 1) := by decide +kernel
theorem dL_law_1707 : decode cL_law 1707 = .ok (.iadd, 1) := by decide +kernel
theorem dL_law_1708 : decode cL_law 1708 = .ok (.iaload, 1) := by decide +kernel
theorem dL_law_1709 : decode cL_law 1709 = .ok (.aload_n 0, 1) := by decide +kernel
theorem dL_law_1710 : decode cL_law 1710 = .ok (.iload_n 3, 1) := by decide +kernel
theorem dL_law_1711 : decode cL_law 1711 = .ok (.iconst 2, 1) := by decide +kernel
theorem dL_law_1712 : decode cL_law 1712 = .ok (.iadd, 1) := by decide +kernel
theorem dL_law_1713 : decode cL_law 1713 = .ok (.iaload, 1) := by decide +kernel
theorem dL_law_1714 : decode cL_law 1714 = .ok (.i2l, 1) := by decide +kernel
theorem dL_law_1715 : decode cL_law 1715 = .ok (.bipush 32, 2) := by decide +kernel
theorem dL_law_1717 : decode cL_law 1717 = .ok (.lshl, 1) := by decide +kernel
theorem dL_law_1718 : decode cL_law 1718 = .ok (.aload_n 0, 1) := by decide +kernel
theorem dL_law_1719 : decode cL_law 1719 = .ok (.iload_n 3, 1) := by decide +kernel
theorem dL_law_1720 : decode cL_law 1720 = .ok (.iconst 3, 1) := by decide +kernel
theorem dL_law_1721 : decode cL_law 1721 = .ok (.iadd, 1) := by decide +kernel
theorem dL_law_1722 : decode cL_law 1722 = .ok (.iaload, 1) := by decide +kernel
theorem dL_law_1723 : decode cL_law 1723 = .ok (.i2l, 1) := by decide +kernel
theorem dL_law_1724 : decode cL_law 1724 = .ok (.ldc2_w 13, 3) := by decide +kernel
theorem dL_law_1727 : decode cL_law 1727 = .ok (.land, 1) := by decide +kernel
theorem dL_law_1728 : decode cL_law 1728 = .ok (.lor, 1) := by decide +kernel
theorem dL_law_1729 : decode cL_law 1729 = .ok (.aload_n 0, 1) := by decide +kernel
theorem dL_law_1730 : decode cL_law 1730 = .ok (.iload_n 3, 1) := by decide +kernel
theorem dL_law_1731 : decode cL_law 1731 = .ok (.iconst 4, 1) := by decide +kernel
theorem dL_law_1732 : decode cL_law 1732 = .ok (.iadd, 1) := by decide +kernel
theorem dL_law_1733 : decode cL_law 1733 = .ok (.iaload, 1) := by decide +kernel
theorem dL_law_1734 : decode cL_law 1734 = .ok (.invokevirtual 163, 3) := by decide +kernel
theorem dL_law_1737 : decode cL_law 1737 = .ok (.aload_n 2, 1) := by decide +kernel
theorem dL_law_1738 : decode cL_law 1738 = .ok (.aload_n 0, 1) := by decide +kernel
theorem dL_law_1739 : decode cL_law 1739 = .ok (.iload_n 3, 1) := by decide +kernel
theorem dL_law_1740 : decode cL_law 1740 = .ok (.iconst 1, 1) := by decide +kernel
theorem dL_law_1741 : decode cL_law 1741 = .ok (.iadd, 1) := by decide +kernel
theorem dL_law_1742 : decode cL_law 1742 = .ok (.iaload, 1) := by decide +kernel
theorem dL_law_1743 : decode cL_law 1743 = .ok (.aload_n 0, 1) := by decide +kernel
theorem dL_law_1744 : decode cL_law 1744 = .ok (.iload_n 3, 1) := by decide +kernel
theorem dL_law_1745 : decode cL_law 1745 = .ok (.iconst 2, 1) := by decide +kernel
theorem dL_law_1746 : decode cL_law 1746 = .ok (.iadd, 1) := by decide +kernel
theorem dL_law_1747 : decode cL_law 1747 = .ok (.iaload, 1) := by decide +kernel
theorem dL_law_1748 : decode cL_law 1748 = .ok (.i2l, 1) := by decide +kernel
theorem dL_law_1749 : decode cL_law 1749 = .ok (.bipush 32, 2) := by decide +kernel
theorem dL_law_1751 : decode cL_law 1751 = .ok (.lshl, 1) := by decide +kernel
theorem dL_law_1752 : decode cL_law 1752 = .ok (.aload_n 0, 1) := by decide +kernel
theorem dL_law_1753 : decode cL_law 1753 = .ok (.iload_n 3, 1) := by decide +kernel
theorem dL_law_1754 : decode cL_law 1754 = .ok (.iconst 3, 1) := by decide +kernel
theorem dL_law_1755 : decode cL_law 1755 = .ok (.iadd, 1) := by decide +kernel
theorem dL_law_1756 : decode cL_law 1756 = .ok (.iaload, 1) := by decide +kernel
theorem dL_law_1757 : decode cL_law 1757 = .ok (.i2l, 1) := by decide +kernel
theorem dL_law_1758 : decode cL_law 1758 = .ok (.ldc2_w 13, 3) := by decide +kernel
theorem dL_law_1761 : decode cL_law 1761 = .ok (.land, 1) := by decide +kernel
theorem dL_law_1762 : decode cL_law 1762 = .ok (.lor, 1) := by decide +kernel
theorem dL_law_1763 : decode cL_law 1763 = .ok (.aload_n 0, 1) := by decide +kernel
theorem dL_law_1764 : decode cL_law 1764 = .ok (.iload_n 3, 1) := by decide +kernel
theorem dL_law_1765 : decode cL_law 1765 = .ok (.iconst 4, 1) := by decide +kernel
theorem dL_law_1766 : decode cL_law 1766 = .ok (.iadd, 1) := by decide +kernel
theorem dL_law_1767 : decode cL_law 1767 = .ok (.iaload, 1) := by decide +kernel
theorem dL_law_1768 : decode cL_law 1768 = .ok (.invokevirtual 167, 3) := by decide +kernel
theorem dL_law_1771 : decode cL_law 1771 = .ok (.if_icmp .eq 289, 3) := by decide +kernel
theorem dL_law_1774 : decode cL_law 1774 = .ok (.iconst 0, 1) := by decide +kernel
theorem dL_law_1775 : decode cL_law 1775 = .ok (.ireturn, 1) := by decide +kernel
theorem dL_law_1776 : decode cL_law 1776 = .ok (.aload_n 1, 1) := by decide +kernel
theorem dL_law_1777 : decode cL_law 1777 = .ok (.aload_n 0, 1) := by decide +kernel
theorem dL_law_1778 : decode cL_law 1778 = .ok (.iload_n 3, 1) := by decide +kernel
theorem dL_law_1779 : decode cL_law 1779 = .ok (.iconst 1, 1) := by decide +kernel
theorem dL_law_1780 : decode cL_law 1780 = .ok (.iadd, 1) := by decide +kernel
theorem dL_law_1781 : decode cL_law 1781 = .ok (.iaload, 1) := by decide +kernel
theorem dL_law_1782 : decode cL_law 1782 = .ok (.i2l, 1) := by decide +kernel
theorem dL_law_1783 : decode cL_law 1783 = .ok (.bipush 32, 2) := by decide +kernel
theorem dL_law_1785 : decode cL_law 1785 = .ok (.lshl, 1) := by decide +kernel
theorem dL_law_1786 : decode cL_law 1786 = .ok (.aload_n 0, 1) := by decide +kernel
theorem dL_law_1787 : decode cL_law 1787 = .ok (.iload_n 3, 1) := by decide +kernel
theorem dL_law_1788 : decode cL_law 1788 = .ok (.iconst 2, 1) := by decide +kernel
theorem dL_law_1789 : decode cL_law 1789 = .ok (.iadd, 1) := by decide +kernel
theorem dL_law_1790 : decode cL_law 1790 = .ok (.iaload, 1) := by decide +kernel
theorem dL_law_1791 : decode cL_law 1791 = .ok (.i2l, 1) := by decide +kernel
theorem dL_law_1792 : decode cL_law 1792 = .ok (.ldc2_w 13, 3) := by decide +kernel
theorem dL_law_1795 : decode cL_law 1795 = .ok (.land, 1) := by decide +kernel
theorem dL_law_1796 : decode cL_law 1796 = .ok (.lor, 1) := by decide +kernel
theorem dL_law_1797 : decode cL_law 1797 = .ok (.aload_n 0, 1) := by decide +kernel
theorem dL_law_1798 : decode cL_law 1798 = .ok (.iload_n 3, 1) := by decide +kernel
theorem dL_law_1799 : decode cL_law 1799 = .ok (.iconst 3, 1) := by decide +kernel
theorem dL_law_1800 : decode cL_law 1800 = .ok (.iadd, 1) := by decide +kernel
theorem dL_law_1801 : decode cL_law 1801 = .ok (.iaload, 1) := by decide +kernel
theorem dL_law_1802 : decode cL_law 1802 = .ok (.invokevirtual 168, 3) := by decide +kernel
theorem dL_law_1805 : decode cL_law 1805 = .ok (.aload_n 2, 1) := by decide +kernel
theorem dL_law_1806 : decode cL_law 1806 = .ok (.aload_n 0, 1) := by decide +kernel
theorem dL_law_1807 : decode cL_law 1807 = .ok (.iload_n 3, 1) := by decide +kernel
theorem dL_law_1808 : decode cL_law 1808 = .ok (.iconst 1, 1) := by decide +kernel
theorem dL_law_1809 : decode cL_law 1809 = .ok (.iadd, 1) := by decide +kernel
theorem dL_law_1810 : decode cL_law 1810 = .ok (.iaload, 1) := by decide +kernel
theorem dL_law_1811 : decode cL_law 1811 = .ok (.i2l, 1) := by decide +kernel
theorem dL_law_1812 : decode cL_law 1812 = .ok (.bipush 32, 2) := by decide +kernel
theorem dL_law_1814 : decode cL_law 1814 = .ok (.lshl, 1) := by decide +kernel
theorem dL_law_1815 : decode cL_law 1815 = .ok (.aload_n 0, 1) := by decide +kernel
theorem dL_law_1816 : decode cL_law 1816 = .ok (.iload_n 3, 1) := by decide +kernel
theorem dL_law_1817 : decode cL_law 1817 = .ok (.iconst 2, 1) := by decide +kernel
theorem dL_law_1818 : decode cL_law 1818 = .ok (.iadd, 1) := by decide +kernel
theorem dL_law_1819 : decode cL_law 1819 = .ok (.iaload, 1) := by decide +kernel
theorem dL_law_1820 : decode cL_law 1820 = .ok (.i2l, 1) := by decide +kernel
theorem dL_law_1821 : decode cL_law 1821 = .ok (.ldc2_w 13, 3) := by decide +kernel
theorem dL_law_1824 : decode cL_law 1824 = .ok (.land, 1) := by decide +kernel
theorem dL_law_1825 : decode cL_law 1825 = .ok (.lor, 1) := by decide +kernel
theorem dL_law_1826 : decode cL_law 1826 = .ok (.aload_n 0, 1) := by decide +kernel
theorem dL_law_1827 : decode cL_law 1827 = .ok (.iload_n 3, 1) := by decide +kernel
theorem dL_law_1828 : decode cL_law 1828 = .ok (.iconst 3, 1) := by decide +kernel
theorem dL_law_1829 : decode cL_law 1829 = .ok (.iadd, 1) := by decide +kernel
theorem dL_law_1830 : decode cL_law 1830 = .ok (.iaload, 1) := by decide +kernel
theorem dL_law_1831 : decode cL_law 1831 = .ok (.invokevirtual 171, 3) := by decide +kernel
theorem dL_law_1834 : decode cL_law 1834 = .ok (.if_icmp .eq 226, 3) := by decide +kernel
theorem dL_law_1837 : decode cL_law 1837 = .ok (.iconst 0, 1) := by decide +kernel
theorem dL_law_1838 : decode cL_law 1838 = .ok (.ireturn, 1) := by decide +kernel
theorem dL_law_1839 : decode cL_law 1839 = .ok (.aload_n 1, 1) := by decide +kernel
theorem dL_law_1840 : decode cL_law 1840 = .ok (.aload_n 0, 1) := by decide +kernel
theorem dL_law_1841 : decode cL_law 1841 = .ok (.iload_n 3, 1) := by decide +kernel
theorem dL_law_1842 : decode cL_law 1842 = .ok (.iconst 1, 1) := by decide +kernel
theorem dL_law_1843 : decode cL_law 1843 = .ok (.iadd, 1) := by decide +kernel
theorem dL_law_1844 : decode cL_law 1844 = .ok (.iaload, 1) := by decide +kernel
theorem dL_law_1845 : decode cL_law 1845 = .ok (.invokevirtual 172, 3) := by decide +kernel
theorem dL_law_1848 : decode cL_law 1848 = .ok (.aload_n 2, 1) := by decide +kernel
theorem dL_law_1849 : decode cL_law 1849 = .ok (.aload_n 0, 1) := by decide +kernel
theorem dL_law_1850 : decode cL_law 1850 = .ok (.iload_n 3, 1) := by decide +kernel
theorem dL_law_1851 : decode cL_law 1851 = .ok (.iconst 1, 1) := by decide +kernel
theorem dL_law_1852 : decode cL_law 1852 = .ok (.iadd, 1) := by decide +kernel
theorem dL_law_1853 : decode cL_law 1853 = .ok (.iaload, 1) := by decide +kernel
theorem dL_law_1854 : decode cL_law 1854 = .ok (.invokevirtual 175, 3) := by decide +kernel
theorem dL_law_1857 : decode cL_law 1857 = .ok (.if_icmp .eq 203, 3) := by decide +kernel
theorem dL_law_1860 : decode cL_law 1860 = .ok (.iconst 0, 1) := by decide +kernel
theorem dL_law_1861 : decode cL_law 1861 = .ok (.ireturn, 1) := by decide +kernel
theorem dL_law_1862 : decode cL_law 1862 = .ok (.aload_n 1, 1) := by decide +kernel
theorem dL_law_1863 : decode cL_law 1863 = .ok (.aload_n 0, 1) := by decide +kernel
theorem dL_law_1864 : decode cL_law 1864 = .ok (.iload_n 3, 1) := by decide +kernel
theorem dL_law_1865 : decode cL_law 1865 = .ok (.iconst 1, 1) := by decide +kernel
theorem dL_law_1866 : decode cL_law 1866 = .ok (.iadd, 1) := by decide +kernel
theorem dL_law_1867 : decode cL_law 1867 = .ok (.iaload, 1) := by decide +kernel
theorem dL_law_1868 : decode cL_law 1868 = .ok (.invokevirtual 176, 3) := by decide +kernel
theorem dL_law_1871 : decode cL_law 1871 = .ok (.aload_n 2, 1) := by decide +kernel
theorem dL_law_1872 : decode cL_law 1872 = .ok (.aload_n 0, 1) := by decide +kernel
theorem dL_law_1873 : decode cL_law 1873 = .ok (.iload_n 3, 1) := by decide +kernel
theorem dL_law_1874 : decode cL_law 1874 = .ok (.iconst 1, 1) := by decide +kernel
theorem dL_law_1875 : decode cL_law 1875 = .ok (.iadd, 1) := by decide +kernel
theorem dL_law_1876 : decode cL_law 1876 = .ok (.iaload, 1) := by decide +kernel
theorem dL_law_1877 : decode cL_law 1877 = .ok (.invokevirtual 179, 3) := by decide +kernel
theorem dL_law_1880 : decode cL_law 1880 = .ok (.if_icmp .eq 180, 3) := by decide +kernel
theorem dL_law_1883 : decode cL_law 1883 = .ok (.iconst 0, 1) := by decide +kernel
theorem dL_law_1884 : decode cL_law 1884 = .ok (.ireturn, 1) := by decide +kernel
theorem dL_law_1885 : decode cL_law 1885 = .ok (.aload_n 1, 1) := by decide +kernel
theorem dL_law_1886 : decode cL_law 1886 = .ok (.aload_n 0, 1) := by decide +kernel
theorem dL_law_1887 : decode cL_law 1887 = .ok (.iload_n 3, 1) := by decide +kernel
theorem dL_law_1888 : decode cL_law 1888 = .ok (.iconst 1, 1) := by decide +kernel
theorem dL_law_1889 : decode cL_law 1889 = .ok (.iadd, 1) := by decide +kernel
theorem dL_law_1890 : decode cL_law 1890 = .ok (.iaload, 1) := by decide +kernel
theorem dL_law_1891 : decode cL_law 1891 = .ok (.aload_n 0, 1) := by decide +kernel
theorem dL_law_1892 : decode cL_law 1892 = .ok (.iload_n 3, 1) := by decide +kernel
theorem dL_law_1893 : decode cL_law 1893 = .ok (.iconst 2, 1) := by decide +kernel
theorem dL_law_1894 : decode cL_law 1894 = .ok (.iadd, 1) := by decide +kernel
theorem dL_law_1895 : decode cL_law 1895 = .ok (.iaload, 1) := by decide +kernel
theorem dL_law_1896 : decode cL_law 1896 = .ok (.aload_n 0, 1) := by decide +kernel
theorem dL_law_1897 : decode cL_law 1897 = .ok (.iload_n 3, 1) := by decide +kernel
theorem dL_law_1898 : decode cL_law 1898 = .ok (.iconst 3, 1) := by decide +kernel
theorem dL_law_1899 : decode cL_law 1899 = .ok (.iadd, 1) := by decide +kernel
theorem dL_law_1900 : decode cL_law 1900 = .ok (.iaload, 1) := by decide +kernel
theorem dL_law_1901 : decode cL_law 1901 = .ok (.invokevirtual 180, 3) := by decide +kernel
theorem dL_law_1904 : decode cL_law 1904 = .ok (.aload_n 2, 1) := by decide +kernel
theorem dL_law_1905 : decode cL_law 1905 = .ok (.aload_n 0, 1) := by decide +kernel
theorem dL_law_1906 : decode cL_law 1906 = .ok (.iload_n 3, 1) := by decide +kernel
theorem dL_law_1907 : decode cL_law 1907 = .ok (.iconst 1, 1) := by decide +kernel
theorem dL_law_1908 : decode cL_law 1908 = .ok (.iadd, 1) := by decide +kernel
theorem dL_law_1909 : decode cL_law 1909 = .ok (.iaload, 1) := by decide +kernel
theorem dL_law_1910 : decode cL_law 1910 = .ok (.aload_n 0, 1) := by decide +kernel
theorem dL_law_1911 : decode cL_law 1911 = .ok (.iload_n 3, 1) := by decide +kernel
theorem dL_law_1912 : decode cL_law 1912 = .ok (.iconst 2, 1) := by decide +kernel
theorem dL_law_1913 : decode cL_law 1913 = .ok (.iadd, 1) := by decide +kernel
theorem dL_law_1914 : decode cL_law 1914 = .ok (.iaload, 1) := by decide +kernel
theorem dL_law_1915 : decode cL_law 1915 = .ok (.aload_n 0, 1) := by decide +kernel
theorem dL_law_1916 : decode cL_law 1916 = .ok (.iload_n 3, 1) := by decide +kernel
theorem dL_law_1917 : decode cL_law 1917 = .ok (.iconst 3, 1) := by decide +kernel
theorem dL_law_1918 : decode cL_law 1918 = .ok (.iadd, 1) := by decide +kernel
theorem dL_law_1919 : decode cL_law 1919 = .ok (.iaload, 1) := by decide +kernel
theorem dL_law_1920 : decode cL_law 1920 = .ok (.invokevirtual 183, 3) := by decide +kernel
theorem dL_law_1923 : decode cL_law 1923 = .ok (.if_icmp .eq 137, 3) := by decide +kernel
theorem dL_law_1926 : decode cL_law 1926 = .ok (.iconst 0, 1) := by decide +kernel
theorem dL_law_1927 : decode cL_law 1927 = .ok (.ireturn, 1) := by decide +kernel
theorem dL_law_1928 : decode cL_law 1928 = .ok (.aload_n 1, 1) := by decide +kernel
theorem dL_law_1929 : decode cL_law 1929 = .ok (.aload_n 0, 1) := by decide +kernel
theorem dL_law_1930 : decode cL_law 1930 = .ok (.iload_n 3, 1) := by decide +kernel
theorem dL_law_1931 : decode cL_law 1931 = .ok (.iconst 1, 1) := by decide +kernel
theorem dL_law_1932 : decode cL_law 1932 = .ok (.iadd, 1) := by decide +kernel
theorem dL_law_1933 : decode cL_law 1933 = .ok (.iaload, 1) := by decide +kernel
theorem dL_law_1934 : decode cL_law 1934 = .ok (.aload_n 0, 1) := by decide +kernel
theorem dL_law_1935 : decode cL_law 1935 = .ok (.iload_n 3, 1) := by decide +kernel
theorem dL_law_1936 : decode cL_law 1936 = .ok (.iconst 2, 1) := by decide +kernel
theorem dL_law_1937 : decode cL_law 1937 = .ok (.iadd, 1) := by decide +kernel
theorem dL_law_1938 : decode cL_law 1938 = .ok (.iaload, 1) := by decide +kernel
theorem dL_law_1939 : decode cL_law 1939 = .ok (.aload_n 0, 1) := by decide +kernel
theorem dL_law_1940 : decode cL_law 1940 = .ok (.iload_n 3, 1) := by decide +kernel
theorem dL_law_1941 : decode cL_law 1941 = .ok (.iconst 3, 1) := by decide +kernel
theorem dL_law_1942 : decode cL_law 1942 = .ok (.iadd, 1) := by decide +kernel
theorem dL_law_1943 : decode cL_law 1943 = .ok (.iaload, 1) := by decide +kernel
theorem dL_law_1944 : decode cL_law 1944 = .ok (.invokevirtual 184, 3) := by decide +kernel
theorem dL_law_1947 : decode cL_law 1947 = .ok (.aload_n 2, 1) := by decide +kernel
theorem dL_law_1948 : decode cL_law 1948 = .ok (.aload_n 0, 1) := by decide +kernel
theorem dL_law_1949 : decode cL_law 1949 = .ok (.iload_n 3, 1) := by decide +kernel
theorem dL_law_1950 : decode cL_law 1950 = .ok (.iconst 1, 1) := by decide +kernel
theorem dL_law_1951 : decode cL_law 1951 = .ok (.iadd, 1) := by decide +kernel
theorem dL_law_1952 : decode cL_law 1952 = .ok (.iaload, 1) := by decide +kernel
theorem dL_law_1953 : decode cL_law 1953 = .ok (.aload_n 0, 1) := by decide +kernel
theorem dL_law_1954 : decode cL_law 1954 = .ok (.iload_n 3, 1) := by decide +kernel
theorem dL_law_1955 : decode cL_law 1955 = .ok (.iconst 2, 1) := by decide +kernel
theorem dL_law_1956 : decode cL_law 1956 = .ok (.iadd, 1) := by decide +kernel
theorem dL_law_1957 : decode cL_law 1957 = .ok (.iaload, 1) := by decide +kernel
theorem dL_law_1958 : decode cL_law 1958 = .ok (.aload_n 0, 1) := by decide +kernel
theorem dL_law_1959 : decode cL_law 1959 = .ok (.iload_n 3, 1) := by decide +kernel
theorem dL_law_1960 : decode cL_law 1960 = .ok (.iconst 3, 1) := by decide +kernel
theorem dL_law_1961 : decode cL_law 1961 = .ok (.iadd, 1) := by decide +kernel
theorem dL_law_1962 : decode cL_law 1962 = .ok (.iaload, 1) := by decide +kernel
theorem dL_law_1963 : decode cL_law 1963 = .ok (.invokevirtual 187, 3) := by decide +kernel
theorem dL_law_1966 : decode cL_law 1966 = .ok (.if_icmp .eq 94, 3) := by decide +kernel
theorem dL_law_1969 : decode cL_law 1969 = .ok (.iconst 0, 1) := by decide +kernel
theorem dL_law_1970 : decode cL_law 1970 = .ok (.ireturn, 1) := by decide +kernel
theorem dL_law_1971 : decode cL_law 1971 = .ok (.aload_n 1, 1) := by decide +kernel
theorem dL_law_1972 : decode cL_law 1972 = .ok (.aload_n 0, 1) := by decide +kernel
theorem dL_law_1973 : decode cL_law 1973 = .ok (.iload_n 3, 1) := by decide +kernel
theorem dL_law_1974 : decode cL_law 1974 = .ok (.iconst 1, 1) := by decide +kernel
theorem dL_law_1975 : decode cL_law 1975 = .ok (.iadd, 1) := by decide +kernel
theorem dL_law_1976 : decode cL_law 1976 = .ok (.iaload, 1) := by decide +kernel
theorem dL_law_1977 : decode cL_law 1977 = .ok (.aload_n 0, 1) := by decide +kernel
theorem dL_law_1978 : decode cL_law 1978 = .ok (.iload_n 3, 1) := by decide +kernel
theorem dL_law_1979 : decode cL_law 1979 = .ok (.iconst 2, 1) := by decide +kernel
theorem dL_law_1980 : decode cL_law 1980 = .ok (.iadd, 1) := by decide +kernel
theorem dL_law_1981 : decode cL_law 1981 = .ok (.iaload, 1) := by decide +kernel
theorem dL_law_1982 : decode cL_law 1982 = .ok (.aload_n 0, 1) := by decide +kernel
theorem dL_law_1983 : decode cL_law 1983 = .ok (.iload_n 3, 1) := by decide +kernel
end
section
theorem dL_law_1984 : decode cL_law 1984 = .ok (.iconst 3, 1) := by decide +kernel
theorem dL_law_1985 : decode cL_law 1985 = .ok (.iadd, 1) := by decide +kernel
theorem dL_law_1986 : decode cL_law 1986 = .ok (.iaload, 1) := by decide +kernel
theorem dL_law_1987 : decode cL_law 1987 = .ok (.aload_n 0, 1) := by decide +kernel
theorem dL_law_1988 : decode cL_law 1988 = .ok (.iload_n 3, 1) := by decide +kernel
theorem dL_law_1989 : decode cL_law 1989 = .ok (.iconst 4, 1) := by decide +kernel
theorem dL_law_1990 : decode cL_law 1990 = .ok (.iadd, 1) := by decide +kernel
theorem dL_law_1991 : decode cL_law 1991 = .ok (.iaload, 1) := by decide +kernel
theorem dL_law_1992 : decode cL_law 1992 = .ok (.invokevirtual 188, 3) := by decide +kernel
theorem dL_law_1995 : decode cL_law 1995 = .ok (.aload_n 2, 1) := by decide +kernel
theorem dL_law_1996 : decode cL_law 1996 = .ok (.aload_n 0, 1) := by decide +kernel
theorem dL_law_1997 : decode cL_law 1997 = .ok (.iload_n 3, 1) := by decide +kernel
theorem dL_law_1998 : decode cL_law 1998 = .ok (.iconst 1, 1) := by decide +kernel
theorem dL_law_1999 : decode cL_law 1999 = .ok (.iadd, 1) := by decide +kernel
theorem dL_law_2000 : decode cL_law 2000 = .ok (.iaload, 1) := by decide +kernel
theorem dL_law_2001 : decode cL_law 2001 = .ok (.aload_n 0, 1) := by decide +kernel
theorem dL_law_2002 : decode cL_law 2002 = .ok (.iload_n 3, 1) := by decide +kernel
theorem dL_law_2003 : decode cL_law 2003 = .ok (.iconst 2, 1) := by decide +kernel
theorem dL_law_2004 : decode cL_law 2004 = .ok (.iadd, 1) := by decide +kernel
theorem dL_law_2005 : decode cL_law 2005 = .ok (.iaload, 1) := by decide +kernel
theorem dL_law_2006 : decode cL_law 2006 = .ok (.aload_n 0, 1) := by decide +kernel
theorem dL_law_2007 : decode cL_law 2007 = .ok (.iload_n 3, 1) := by decide +kernel
theorem dL_law_2008 : decode cL_law 2008 = .ok (.iconst 3, 1) := by decide +kernel
theorem dL_law_2009 : decode cL_law 2009 = .ok (.iadd, 1) := by decide +kernel
theorem dL_law_2010 : decode cL_law 2010 = .ok (.iaload, 1) := by decide +kernel
theorem dL_law_2011 : decode cL_law 2011 = .ok (.aload_n 0, 1) := by decide +kernel
theorem dL_law_2012 : decode cL_law 2012 = .ok (.iload_n 3, 1) := by decide +kernel
theorem dL_law_2013 : decode cL_law 2013 = .ok (.iconst 4, 1) := by decide +kernel
theorem dL_law_2014 : decode cL_law 2014 = .ok (.iadd, 1) := by decide +kernel
theorem dL_law_2015 : decode cL_law 2015 = .ok (.iaload, 1) := by decide +kernel
theorem dL_law_2016 : decode cL_law 2016 = .ok (.invokevirtual 192, 3) := by decide +kernel
theorem dL_law_2019 : decode cL_law 2019 = .ok (.if_icmp .eq 41, 3) := by decide +kernel
theorem dL_law_2022 : decode cL_law 2022 = .ok (.iconst 0, 1) := by decide +kernel
theorem dL_law_2023 : decode cL_law 2023 = .ok (.ireturn, 1) := by decide +kernel
theorem dL_law_2024 : decode cL_law 2024 = .ok (.aload_n 1, 1) := by decide +kernel
theorem dL_law_2025 : decode cL_law 2025 = .ok (.invokevirtual 193, 3) := by decide +kernel
theorem dL_law_2028 : decode cL_law 2028 = .ok (.aload_n 2, 1) := by decide +kernel
theorem dL_law_2029 : decode cL_law 2029 = .ok (.invokevirtual 196, 3) := by decide +kernel
theorem dL_law_2032 : decode cL_law 2032 = .ok (.if_icmp .eq 28, 3) := by decide +kernel
theorem dL_law_2035 : decode cL_law 2035 = .ok (.iconst 0, 1) := by decide +kernel
theorem dL_law_2036 : decode cL_law 2036 = .ok (.ireturn, 1) := by decide +kernel
theorem dL_law_2037 : decode cL_law 2037 = .ok (.aload_n 1, 1) := by decide +kernel
theorem dL_law_2038 : decode cL_law 2038 = .ok (.aload_n 0, 1) := by decide +kernel
theorem dL_law_2039 : decode cL_law 2039 = .ok (.iload_n 3, 1) := by decide +kernel
theorem dL_law_2040 : decode cL_law 2040 = .ok (.iconst 1, 1) := by decide +kernel
theorem dL_law_2041 : decode cL_law 2041 = .ok (.iadd, 1) := by decide +kernel
theorem dL_law_2042 : decode cL_law 2042 = .ok (.iaload, 1) := by decide +kernel
theorem dL_law_2043 : decode cL_law 2043 = .ok (.invokevirtual 197, 3) := by decide +kernel
theorem dL_law_2046 : decode cL_law 2046 = .ok (.aload_n 2, 1) := by decide +kernel
theorem dL_law_2047 : decode cL_law 2047 = .ok (.aload_n 0, 1) := by decide +kernel
theorem dL_law_2048 : decode cL_law 2048 = .ok (.iload_n 3, 1) := by decide +kernel
theorem dL_law_2049 : decode cL_law 2049 = .ok (.iconst 1, 1) := by decide +kernel
theorem dL_law_2050 : decode cL_law 2050 = .ok (.iadd, 1) := by decide +kernel
theorem dL_law_2051 : decode cL_law 2051 = .ok (.iaload, 1) := by decide +kernel
theorem dL_law_2052 : decode cL_law 2052 = .ok (.invokevirtual 200, 3) := by decide +kernel
theorem dL_law_2055 : decode cL_law 2055 = .ok (.if_icmp .eq 5, 3) := by decide +kernel
theorem dL_law_2058 : decode cL_law 2058 = .ok (.iconst 0, 1) := by decide +kernel
theorem dL_law_2059 : decode cL_law 2059 = .ok (.ireturn, 1) := by decide +kernel
theorem dL_law_2060 : decode cL_law 2060 = .ok (.iinc 3 7, 3) := by decide +kernel
theorem dL_law_2063 : decode cL_law 2063 = .ok (.goto (-2045), 3) := by decide +kernel
theorem dL_law_2066 : decode cL_law 2066 = .ok (.iconst 1, 1) := by decide +kernel
theorem dL_law_2067 : decode cL_law 2067 = .ok (.ireturn, 1) := by decide +kernel
end
section
/-! numbers: an int is an Int modulo 2^32, a long an Int modulo 2^64 -/
def iZ (x : Int) : Int32 := Int32.ofInt x
def lZ (x : Int) : Int64 := Int64.ofInt x
abbrev R32 (x : Int) : Prop := -2147483648 ≤ x ∧ x < 2147483648
abbrev R64 (x : Int) : Prop := -9223372036854775808 ≤ x ∧ x < 9223372036854775808
theorem iZ_toInt {x : Int} (h : R32 x) : (iZ x).toInt = x := Int32.toInt_ofInt_of_le (by omega) (by omega)
theorem lZ_toInt {x : Int} (h : R64 x) : (lZ x).toInt = x := Int64.toInt_ofInt_of_le (by omega) (by omega)
theorem iZ_of (x : Int32) : iZ x.toInt = x := Int32.ofInt_toInt x
theorem lZ_of (x : Int64) : lZ x.toInt = x := Int64.ofInt_toInt x
theorem iZ_rng (x : Int32) : R32 x.toInt := ⟨by have := x.le_toInt; omega, by have := x.toInt_lt; omega⟩
theorem lZ_rng (x : Int64) : R64 x.toInt := ⟨by have := x.le_toInt; omega, by have := x.toInt_lt; omega⟩
theorem iZ_add (a b : Int) : iZ a + iZ b = iZ (a + b) := (Int32.ofInt_add a b).symm
theorem iZ_sub (a b : Int) : iZ a - iZ b = iZ (a - b) := (Int32.ofInt_sub a b).symm
theorem iZ_mul (a b : Int) : iZ a * iZ b = iZ (a * b) := (Int32.ofInt_mul a b).symm
theorem lZ_add (a b : Int) : lZ a + lZ b = lZ (a + b) := (Int64.ofInt_add a b).symm
theorem lZ_sub (a b : Int) : lZ a - lZ b = lZ (a - b) := (Int64.ofInt_sub a b).symm
theorem lZ_mul (a b : Int) : lZ a * lZ b = lZ (a * b) := (Int64.ofInt_mul a b).symm
theorem iZ_lt {a b : Int} (ha : R32 a) (hb : R32 b) : iZ a < iZ b ↔ a < b := by rw [Int32.lt_iff_toInt_lt, iZ_toInt ha, iZ_toInt hb]
theorem iZ_le {a b : Int} (ha : R32 a) (hb : R32 b) : iZ a ≤ iZ b ↔ a ≤ b := by rw [Int32.le_iff_toInt_le, iZ_toInt ha, iZ_toInt hb]
theorem iZ_eq {a b : Int} (ha : R32 a) (hb : R32 b) : iZ a = iZ b ↔ a = b := by rw [← Int32.toInt_inj, iZ_toInt ha, iZ_toInt hb]
theorem lZ_lt {a b : Int} (ha : R64 a) (hb : R64 b) : lZ a < lZ b ↔ a < b := by rw [Int64.lt_iff_toInt_lt, lZ_toInt ha, lZ_toInt hb]
theorem lZ_le {a b : Int} (ha : R64 a) (hb : R64 b) : lZ a ≤ lZ b ↔ a ≤ b := by rw [Int64.le_iff_toInt_le, lZ_toInt ha, lZ_toInt hb]
theorem lZ_eq {a b : Int} (ha : R64 a) (hb : R64 b) : lZ a = lZ b ↔ a = b := by rw [← Int64.toInt_inj, lZ_toInt ha, lZ_toInt hb]
theorem iZ0 : iZ 0 = 0 := rfl
theorem lZ0 : lZ 0 = 0 := rfl
theorem iZ_div {a b : Int} (ha : R32 a) (hb : R32 b) (hn : ¬ (a = -2147483648 ∧ b = -1)) : iZ a / iZ b = iZ (a.tdiv b) := by
  apply Int32.toInt_inj.mp
  rw [Int32.toInt_div, iZ_toInt ha, iZ_toInt hb]
  show _ = (Int32.ofInt _).toInt
  rw [Int32.toInt_ofInt]
theorem lZ_div {a b : Int} (ha : R64 a) (hb : R64 b) (hn : ¬ (a = -9223372036854775808 ∧ b = -1)) : lZ a / lZ b = lZ (a.tdiv b) := by
  apply Int64.toInt_inj.mp
  rw [Int64.toInt_div, lZ_toInt ha, lZ_toInt hb]
  show _ = (Int64.ofInt _).toInt
  rw [Int64.toInt_ofInt]
theorem iZ_rem {a b : Int} (ha : R32 a) (hb : R32 b) : iZ a - iZ a / iZ b * iZ b = iZ (a.tmod b) := by
  have h : iZ a / iZ b = iZ (a.tdiv b) := by
    apply Int32.toInt_inj.mp
    rw [Int32.toInt_div, iZ_toInt ha, iZ_toInt hb]
    show _ = (Int32.ofInt _).toInt
    rw [Int32.toInt_ofInt]
  rw [h, iZ_mul, iZ_sub]
  congr 1
  have := Int.mul_tdiv_add_tmod a b
  rw [Int.mul_comm] at this
  omega
theorem lZ_rem {a b : Int} (ha : R64 a) (hb : R64 b) : lZ a - lZ a / lZ b * lZ b = lZ (a.tmod b) := by
  have h : lZ a / lZ b = lZ (a.tdiv b) := by
    apply Int64.toInt_inj.mp
    rw [Int64.toInt_div, lZ_toInt ha, lZ_toInt hb]
    show _ = (Int64.ofInt _).toInt
    rw [Int64.toInt_ofInt]
  rw [h, lZ_mul, lZ_sub]
  congr 1
  have := Int.mul_tdiv_add_tmod a b
  rw [Int.mul_comm] at this
  omega
theorem iZ_64 {a : Int} (h : R32 a) : (iZ a).toInt64 = lZ a := by
  apply Int64.toInt_inj.mp
  rw [Int32.toInt_toInt64, iZ_toInt h, lZ_toInt (by omega)]
theorem lZ_32 (a : Int) : (lZ a).toInt32 = iZ a := by
  apply Int32.toInt_inj.mp
  show (Int64.toInt32 (Int64.ofInt a)).toInt = (Int32.ofInt a).toInt
  rw [Int64.toInt_toInt32, Int64.toInt_ofInt, Int32.toInt_ofInt]
  exact Int.bmod_bmod_of_dvd (by decide)
theorem iZ_nat {a : Int} (h0 : 0 ≤ a) (h : a < 2147483648) : (iZ a).toNatClampNeg = a.toNat := by
  have : (iZ a).toInt = a := iZ_toInt (by omega)
  show (iZ a).toInt.toNat = a.toNat
  rw [this]
theorem iZ_in {a : Int} {n : Nat} (h0 : 0 ≤ a) (hn : a < n) (h : a < 2147483648) : vp_in (iZ a) n := by
  rw [vp_in_iff, iZ_toInt (by omega)]
  exact ⟨h0, hn⟩
/-- operations on bits, as functions of Ints -/
def iAnd (a b : Int) : Int := (iZ a &&& iZ b).toInt
def iOr (a b : Int) : Int := (iZ a ||| iZ b).toInt
def iXor (a b : Int) : Int := (iZ a ^^^ iZ b).toInt
def iShl (a b : Int) : Int := (iZ a <<< (iZ b &&& 31)).toInt
def iShr (a b : Int) : Int := (iZ a >>> (iZ b &&& 31)).toInt
def lAnd (a b : Int) : Int := (lZ a &&& lZ b).toInt
def lOr (a b : Int) : Int := (lZ a ||| lZ b).toInt
def lXor (a b : Int) : Int := (lZ a ^^^ lZ b).toInt
def lShl (a b : Int) : Int := (lZ a <<< ((iZ b).toInt64 &&& 63)).toInt
def lShr (a b : Int) : Int := (lZ a >>> ((iZ b).toInt64 &&& 63)).toInt
def lUshr (a b : Int) : Int := ((lZ a).toUInt64 >>> ((iZ b).toInt64.toUInt64 &&& Int64.toUInt64 63)).toInt64.toInt
def i2bZ (a : Int) : Int := (iZ a).toInt8.toInt32.toInt
def i2sZ (a : Int) : Int := (iZ a).toInt16.toInt32.toInt
end
section
/-! A PURE MACHINE OVER THE KIT'S: a heap of numbered cells (layout, ints, longs), frames as lists; Go: the machine comes from here to the method's end; Ev: a method's contract -/
/-- the words that every method rests on: those of the tables that stay -/
def TB : List Cond := lw_tbl.filter goodWord
theorem tbm {w : Cond} {i : Nat} (h : tables_1[i]? = some w) (hg : goodWord w = true) : w ∈ TB := List.mem_filter.mpr ⟨List.mem_append_right _ (List.mem_of_getElem? h), hg⟩
theorem tbs {w : Cond} {i : Nat} (h : (k2_sels lw_privs)[i]? = some w) (hg : goodWord w = true) : w ∈ TB := List.mem_filter.mpr ⟨List.mem_append_left _ (List.mem_of_getElem? h), hg⟩
theorem tb_good {ws : List Cond} {c : Cond} (hc : c ∈ TB) (h : ∀ w ∈ ws, w ∈ TB) : GoodIn TB (c :: ws) := fun w hw => by
  have hm : w ∈ TB := (List.mem_cons.mp hw).elim (fun e => e ▸ hc) (h w)
  exact ⟨hm, good_of_word (List.mem_filter.mp hm).2⟩
/-- the links among nest mates, the arrays of own classes -/
def nestL : List (String × Nat × MethodName × String) := [("ClockTeeth", 11, ⟨"ClockTeeth$Tape", "<init>", "()V"⟩, "ClockTeeth"), ("ClockTeeth$Clock", 51, ⟨"ClockTeeth$Figure", "<init>", "()V"⟩, "ClockTeeth"), ("ClockTeeth$Clock", 52, ⟨"ClockTeeth$Vote", "<init>", "()V"⟩, "ClockTeeth"), ("ClockTeeth$Clock", 53, ⟨"ClockTeeth$Sight", "<init>", "()V"⟩, "ClockTeeth"), ("ClockTeeth$Finder", 38, ⟨"ClockTeeth$Figure", "<init>", "()V"⟩, "ClockTeeth"), ("ClockTeeth", 49, ⟨"ClockTeeth$Figure", "<init>", "()V"⟩, "ClockTeeth"), ("ClockTeeth", 71, ⟨"ClockTeeth$Sheet", "<init>", "()V"⟩, "ClockTeeth"), ("ClockTeeth$Figure", 41, ⟨"ClockTeeth", "rest", "(JJ)J"⟩, "ClockTeeth"), ("ClockTeeth$Finder", 63, ⟨"ClockTeeth", "commonDivisor", "(JJ)J"⟩, "ClockTeeth"), ("ClockTeeth$Finder", 73, ⟨"ClockTeeth", "rest", "(JJ)J"⟩, "ClockTeeth"), ("ClockTeeth$Figure", 45, ⟨"ClockTeeth", "commonDivisor", "(JJ)J"⟩, "ClockTeeth"), ("ClockTeeth$Clock", 106, ⟨"ClockTeeth", "dayOfYear", "(J)I"⟩, "ClockTeeth"), ("ClockTeeth$Clock", 145, ⟨"ClockTeeth", "commonDivisor", "(JJ)J"⟩, "ClockTeeth"), ("ClockTeeth$Clock", 158, ⟨"ClockTeeth", "rest", "(JJ)J"⟩, "ClockTeeth"), ("ClockTeeth$Clock", 134, ⟨"ClockTeeth", "lowestBit", "(J)I"⟩, "ClockTeeth")]
def overL : List String := ["ClockTeeth$Figure", "ClockTeeth$Vote", "ClockTeeth$Sight", "ClockTeeth$Clock", "ClockTeeth$Sheet"]
def EXT (U : State) : Prop := (∀ q ∈ nestL, va_Nw (.methodLinkNest q.1 q.2.1 q.2.2.1 q.2.2.2) U) ∧ ∀ C ∈ overL, va_AO C U
abbrev Kd : Type := Nat ⊕ (Nat × Nat)
/-- the layout: how many cells, what each is (an object of class ci, or an array of kind t with n places), the references -/
abbrev LY : Type := Nat × (Nat → Kd) × (Nat → Nat → Option Nat)
def LY.n (y : LY) : Nat := y.1
def LY.k (y : LY) : Nat → Kd := y.2.1
def LY.R (y : LY) : Nat → Nat → Option Nat := y.2.2
/-- the numbers -/
abbrev HM : Type := (Nat → Nat → Int) × (Nat → Nat → Int)
def HM.I (h : HM) : Nat → Nat → Int := h.1
def HM.L (h : HM) : Nat → Nat → Int := h.2
def up2 {α : Type} (f : Nat → Nat → α) (a k : Nat) (v : α) : Nat → Nat → α := fun x j => if x = a ∧ j = k then v else f x j
def HM.sI (h : HM) (a k : Nat) (v : Int) : HM := (up2 h.1 a k v, h.2)
def HM.sL (h : HM) (a k : Nat) (v : Int) : HM := (h.1, up2 h.2 a k v)
def HM.new (h : HM) (a : Nat) : HM := (fun x j => if x = a then 0 else h.1 x j, fun x j => if x = a then 0 else h.2 x j)
def LY.sR (y : LY) (a k : Nat) (v : Option Nat) : LY := (y.1, y.2.1, up2 y.2.2 a k v)
def LY.new (y : LY) (kd : Kd) : LY := (y.1 + 1, fun x => if x = y.1 then kd else y.2.1 x, fun x j => if x = y.1 then none else y.2.2 x j)
theorem sI_same (h : HM) (a k : Nat) (v : Int) : (h.sI a k v).I a k = v := by simp [HM.sI, HM.I, up2]
theorem sI_I (h : HM) (a k : Nat) (v : Int) (b j : Nat) : (h.sI a k v).I b j = if b = a ∧ j = k then v else h.I b j := rfl
theorem sI_L (h : HM) (a k : Nat) (v : Int) : (h.sI a k v).L = h.L := rfl
theorem sL_L (h : HM) (a k : Nat) (v : Int) (b j : Nat) : (h.sL a k v).L b j = if b = a ∧ j = k then v else h.L b j := rfl
theorem sL_I (h : HM) (a k : Nat) (v : Int) : (h.sL a k v).I = h.I := rfl
/-- the surroundings: launch, classes' numbers and slots, array classes, the first own address, old addresses (0 to 7 texts, 8 the script), the texts' bytes, the script -/
abbrev GX : Type := Launch × va_G × (Nat → ClassId) × Nat × (Nat → Nat) × (Nat → Nat) × Nat × (Nat → Int32)
def GX.l (G : GX) : Launch := G.1
def GX.D (G : GX) : va_G := G.2.1
def GX.ca (G : GX) : Nat → ClassId := G.2.2.1
def GX.base (G : GX) : Nat := G.2.2.2.1
def GX.old (G : GX) : Nat → Nat := G.2.2.2.2.1
def GX.oldV (G : GX) : Nat → Nat := G.2.2.2.2.2.1
def GX.len (G : GX) : Nat := G.2.2.2.2.2.2.1
def GX.xs (G : GX) : Nat → Int32 := G.2.2.2.2.2.2.2
def oldA (G : GX) : Nat → Prop := fun q => G.base ≤ q
def ad (G : GX) (k : Nat) : Nat := if k < 9 then G.old k else G.base + (k - 9)
def rv (G : GX) : Value → Value
  | .ref k => .ref (ad G k)
  | v => v
def pfv (y : LY) (h : HM) (a j : Nat) : FieldType → Value
  | .long => .long (lZ (h.L a j))
  | .object _ => va_rf (y.R a j)
  | .array _ => va_rf (y.R a j)
  | _ => .int (iZ (h.I a j))
def AT : Nat → FieldType
  | 0 => .int
  | 1 => .long
  | 2 => .boolean
  | 3 => .object "ClockTeeth$Figure"
  | 4 => .object "ClockTeeth$Vote"
  | 5 => .object "ClockTeeth$Sight"
  | 6 => .object "ClockTeeth$Clock"
  | _ => .object "ClockTeeth$Sheet"
def FT : Nat → Nat → FieldType
  | 0 => tyX0
  | 1 => tyX1
  | 2 => tyX2
  | 3 => tyX3
  | 4 => tyX4
  | 5 => tyX5
  | 6 => tyX6
  | 7 => tyX7
  | 8 => tyX8
  | _ => tyX9
def NF : Nat → Nat
  | 0 => 10
  | 1 => 5
  | 2 => 7
  | 3 => 9
  | 4 => 3
  | 5 => 3
  | 6 => 2
  | 7 => 5
  | 8 => 13
  | _ => 27
def tysG (G : GX) : List (ClassId × FieldType) := [(G.ca 0, AT 0), (G.ca 1, AT 1), (G.ca 2, AT 2), (G.ca 3, AT 3), (G.ca 4, AT 4), (G.ca 5, AT 5), (G.ca 6, AT 6), (G.ca 7, AT 7)]
/-- the texts -/
def txS : List String := ["figure", "stick", "reach", "vote", "both", "worn", "twin", "plain"]
def ixS : List Nat := [77, 86, 91, 96, 105, 107, 109, 111]
def lnS : List Nat := [6, 5, 5, 4, 4, 4, 4, 5]
def byS : List (List Int32) := [[102, 105, 103, 117, 114, 101], [115, 116, 105, 99, 107], [114, 101, 97, 99, 104], [118, 111, 116, 101], [98, 111, 116, 104], [119, 111, 114, 110], [116, 119, 105, 110], [112, 108, 97, 105, 110]]
def OLD (G : GX) (U : State) (H : Heap) : Prop :=
  va_X (G.old 8) G.len G.xs U H ∧ G.old 8 < G.base ∧ vk_S 8 lnS byS G.old G.oldV (oldA G) U H ∧ (∀ i, i < 8 → vk_R RX3 (ixS.getD i 0) (txS.getD i "") (G.old i) U) ∧
  va_Z "java/lang/String" "COMPACT_STRINGS" "Z" (.int 1) (oldA G) U H ∧ va_Zq "jdk/internal/util/Preconditions" "SIOOBE_FORMATTER" "Ljava/util/function/BiFunction;" (oldA G) U H ∧ G.base ≤ H.size
def EN (G : GX) (U : State) : Prop := va_K G.D vwCl (tysG G) U ∧ EXT U ∧ OLD G U U.heap
def CE (G : GX) (y : LY) (h : HM) (a : Nat) (H : Heap) : Prop := match y.k a with
  | .inl ci => t_OB (ad G a) (G.D.1 ci) (NF ci) (G.D.2 ci) H (fun j => rv G (pfv y h a j (FT ci j)))
  | .inr tn => H[ad G a]? = some (arrV (G.ca tn.1) tn.2 (fun j => rv G (pfv y h a j (AT tn.1))))
def HH (G : GX) (y : LY) (h : HM) (H : Heap) : Prop := H.size = G.base + (y.n - 9) ∧ 9 ≤ y.n ∧ ∀ a, 9 ≤ a → a < y.n → CE G y h a H
def IsO (y : LY) (a ci : Nat) : Prop := 9 ≤ a ∧ a < y.n ∧ y.k a = .inl ci
def IsA (y : LY) (a t n : Nat) : Prop := 9 ≤ a ∧ a < y.n ∧ y.k a = .inr (t, n)
def LH (G : GX) (la : Array Slot) (nL : Nat) (ls : List (Option Value)) : Prop := la.size = nL ∧ lv_wf la ∧ ∀ (i : Nat) (v : Value), ls[i]? = some (some v) → la[i]? = some (.val (rv G v))
abbrev MI : Type := MethodName × ByteArray × Nat × Option FieldType
def CX (G : GX) (M : MI) (p : Program) (s : State) (m : MethodId) (args : Array Value) (meth : Method) (c : Code) : Prop :=
  p.tables.exec = Jvm.exec ∧ c.code = M.2.1 ∧ meth.sig.returnType = M.2.2.2 ∧ c.maxLocals = M.2.2.1 ∧ s.vm.findClass M.1.cls = some m.cls ∧ meth.name = M.1.name ∧ (∀ w ∈ TB, w.before args s = true) ∧ meth.locks = false ∧ EN G s
abbrev ZT : Type := State → Array Value → List Frame → State → Prop
/-- the machine, here, comes to an end that Z names -/
def Go (G : GX) (M : MI) (R : Room) (Z : ZT) (y : LY) (pc : Nat) (ls : List (Option Value)) (st : List Value) (h : HM) (cs : Nat × Nat) : Prop :=
  ∀ (p : Program) (e : Env) (s : State) (m : MethodId) (args : Array Value) (below : List Frame) (meth : Method) (c : Code) (H : Heap) (locs : List Loc) (la : Array Slot),
    CX G M p s m args meth c → HH G y h H → va_S (oldA G) s.heap H locs → LH G la M.2.2.1 ls →
    W p G.l e R s m args below meth c H locs cs.1 cs.2 (Z s args below) (F0 m pc la (st.map (rv G)))
def rmo (d mc ms : Nat) : Room := { frames := d, cells := mc, slots := ms, locals := 64 * d }
def QQ (G : GX) (y1 : LY) (Q : Option Value → HM → Prop) : Array Value → State → Outcome → State → Prop := fun _ st oc t =>
  (∃ (r : Option Value) (h1 : HM), oc = .returned (r.map (rv G)) ∧ Q r h1 ∧ HH G y1 h1 t.heap) ∧ va_F (oldA G) st t
def ZM (G : GX) (y1 : LY) (mc ms : Nat) (Q : Option Value → HM → Prop) : ZT := fun s args below => MQ below (QQ G y1 Q) args s mc ms (oldA G)
/-- a method's contract: from the layout y and the numbers h, with the arguments as, it returns; Q of its answer and the numbers then; y1 the layout then -/
def Ev (G : GX) (M : MI) (d mc ms : Nat) (as : List Value) (y : LY) (h : HM) (y1 : LY) (Q : Option Value → HM → Prop) : Prop :=
  Met G.l M.1 (Cond.code M.1 M.2.1 M.2.2.1 M.2.2.2 :: TB) (rmo d mc ms) (fun v U => v = (as.map (rv G)).toArray ∧ HH G y h U.heap ∧ EN G U) (QQ G y1 Q) mc ms (oldA G)
/-- contracts with the answer told -/
def EvI (G : GX) (M : MI) (d : Nat) (as : List Value) (y : LY) (h : HM) (v : Int) : Prop := Ev G M d 0 0 as y h y (fun r h1 => r = some (.int (iZ v)) ∧ h1 = h)
def EvL (G : GX) (M : MI) (d : Nat) (as : List Value) (y : LY) (h : HM) (v : Int) : Prop := Ev G M d 0 0 as y h y (fun r h1 => r = some (.long (lZ v)) ∧ h1 = h)
def EvV (G : GX) (M : MI) (d : Nat) (as : List Value) (y : LY) (h h2 : HM) : Prop := Ev G M d 0 0 as y h y (fun r h1 => r = none ∧ h1 = h2)
def EvX (G : GX) (M : MI) (d : Nat) (as : List Value) (y : LY) (h : HM) (v : Int) (h2 : HM) : Prop := Ev G M d 0 0 as y h y (fun r h1 => r = some (.int (iZ v)) ∧ h1 = h2)

theorem rv_int (G : GX) (x : Int32) : rv G (.int x) = .int x := rfl
theorem rv_cat (G : GX) (v : Value) : (rv G v).category = v.category := by cases v <;> rfl
theorem ad_own (G : GX) {a : Nat} (h : 9 ≤ a) : ad G a = G.base + (a - 9) := by unfold ad; rw [if_neg (by omega)]
theorem ad_inj (G : GX) {a b : Nat} (ha : 9 ≤ a) (hb : 9 ≤ b) (h : ad G a = ad G b) : a = b := by rw [ad_own G ha, ad_own G hb] at h; omega
theorem ad_A (G : GX) {a : Nat} (ha : 9 ≤ a) : oldA G (ad G a) := by unfold oldA; rw [ad_own G ha]; omega
theorem CE.obj {G : GX} {y : LY} {h : HM} {a ci : Nat} {H : Heap} (hc : CE G y h a H) (hk : y.k a = .inl ci) : t_OB (ad G a) (G.D.1 ci) (NF ci) (G.D.2 ci) H (fun j => rv G (pfv y h a j (FT ci j))) := by
  unfold CE at hc; rw [hk] at hc; exact hc
theorem CE.arr {G : GX} {y : LY} {h : HM} {a t n : Nat} {H : Heap} (hc : CE G y h a H) (hk : y.k a = .inr (t, n)) : H[ad G a]? = some (arrV (G.ca t) n (fun j => rv G (pfv y h a j (AT t)))) := by
  unfold CE at hc; rw [hk] at hc; exact hc
theorem CE.ofObj {G : GX} {y : LY} {h : HM} {a ci : Nat} {H : Heap} (hk : y.k a = .inl ci) (hc : t_OB (ad G a) (G.D.1 ci) (NF ci) (G.D.2 ci) H (fun j => rv G (pfv y h a j (FT ci j)))) : CE G y h a H := by
  unfold CE; rw [hk]; exact hc
theorem CE.ofArr {G : GX} {y : LY} {h : HM} {a t n : Nat} {H : Heap} (hk : y.k a = .inr (t, n)) (hc : H[ad G a]? = some (arrV (G.ca t) n (fun j => rv G (pfv y h a j (AT t))))) : CE G y h a H := by
  unfold CE; rw [hk]; exact hc
theorem pfv_congr {y y1 : LY} {h h1 : HM} {a j : Nat} (hI : h1.I a j = h.I a j) (hL : h1.L a j = h.L a j) (hR : y1.R a j = y.R a j) (ty : FieldType) : pfv y1 h1 a j ty = pfv y h a j ty := by
  cases ty <;> simp [pfv, hI, hL, hR]
theorem CE.kept {G : GX} {y y1 : LY} {h h1 : HM} {a : Nat} {H H1 : Heap} (hc : CE G y h a H) (hk : y1.k a = y.k a) (hI : ∀ j, h1.I a j = h.I a j) (hL : ∀ j, h1.L a j = h.L a j) (hR : ∀ j, y1.R a j = y.R a j) (hq : H1[ad G a]? = H[ad G a]?) : CE G y1 h1 a H1 := by
  have e : ∀ j ty, pfv y1 h1 a j ty = pfv y h a j ty := fun j ty => pfv_congr (hI j) (hL j) (hR j) ty
  cases hka : y.k a with
  | inl ci =>
    refine CE.ofObj (hk.trans hka) ?_
    have h2 := (hc.obj hka).kept hq
    exact h2.to (fun j _ => by rw [e])
  | inr tn =>
    obtain ⟨t, n⟩ := tn
    refine CE.ofArr (hk.trans hka) ?_
    rw [hq, hc.arr hka]
    simp only [e]
theorem HH.set {G : GX} {y y1 : LY} {h h1 : HM} {a : Nat} {H H1 : Heap} (hh : HH G y h H) (ha : 9 ≤ a) (hz : H1.size = H.size) (hq : ∀ q, q ≠ ad G a → H1[q]? = H[q]?) (hn : y1.n = y.n) (hk : ∀ b, b ≠ a → y1.k b = y.k b)
    (hI : ∀ b, b ≠ a → ∀ j, h1.I b j = h.I b j) (hL : ∀ b, b ≠ a → ∀ j, h1.L b j = h.L b j) (hR : ∀ b, b ≠ a → ∀ j, y1.R b j = y.R b j) (hc : CE G y1 h1 a H1) : HH G y1 h1 H1 := by
  refine ⟨by rw [hz, hn]; exact hh.1, by rw [hn]; exact hh.2.1, fun b hb hb2 => ?_⟩
  by_cases hab : b = a
  · subst hab; exact hc
  · exact (hh.2.2 b hb (by rw [hn] at hb2; exact hb2)).kept (hk b hab) (hI b hab) (hL b hab) (hR b hab) (hq _ (fun e => hab (ad_inj G hb ha e)))
theorem HH.new {G : GX} {y : LY} {h : HM} {H H1 : Heap} {kd : Kd} (hh : HH G y h H) (hz : H1.size = H.size + 1) (hq : ∀ q, q < H.size → H1[q]? = H[q]?) (hc : CE G (y.new kd) (h.new y.n) y.n H1) : HH G (y.new kd) (h.new y.n) H1 := by
  have h9 := hh.2.1
  have hn : (y.new kd).n = y.n + 1 := rfl
  refine ⟨by rw [hz, hh.1, hn]; omega, by rw [hn]; omega, fun b hb hb2 => ?_⟩
  by_cases hab : b = y.n
  · subst hab; exact hc
  · have hlt : b < y.n := by rw [hn] at hb2; omega
    refine (hh.2.2 b hb hlt).kept ?_ ?_ ?_ ?_ (hq _ (by rw [hh.1, ad_own G hb]; omega))
    · show (if b = y.n then kd else y.2.1 b) = _
      rw [if_neg hab]; rfl
    · intro j
      show (if b = y.n then 0 else h.1 b j) = _
      rw [if_neg hab]; rfl
    · intro j
      show (if b = y.n then 0 else h.2 b j) = _
      rw [if_neg hab]; rfl
    · intro j
      show (if b = y.n then none else y.2.2 b j) = _
      rw [if_neg hab]; rfl
theorem ad_new {G : GX} {y : LY} {h : HM} {H : Heap} (hh : HH G y h H) : ad G y.n = H.size := by rw [hh.1, ad_own G hh.2.1]
/-- the locals -/
def toL (G : GX) (ls : List (Option Value)) : List (Nat × Value) := (List.range ls.length).filterMap (fun i => match ls[i]? with | some (some v) => some (i, rv G v) | _ => none)
theorem mem_toL {G : GX} {ls : List (Option Value)} {q : Nat × Value} : q ∈ toL G ls ↔ ∃ v, ls[q.1]? = some (some v) ∧ q.2 = rv G v := by
  unfold toL
  rw [List.mem_filterMap]
  constructor
  · rintro ⟨i, hi, h⟩
    split at h
    next v hv => cases h; exact ⟨v, hv, rfl⟩
    next => cases h
  · rintro ⟨v, hv, h2⟩
    have hl : q.1 < ls.length := (List.getElem?_eq_some_iff.mp hv).1
    refine ⟨q.1, List.mem_range.mpr hl, ?_⟩
    rw [hv]
    obtain ⟨a, b⟩ := q
    simp at h2 ⊢
    exact h2.symm
theorem LH.has {G : GX} {la : Array Slot} {nL : Nat} {ls : List (Option Value)} (h : LH G la nL ls) : lv_has la nL (toL G ls) := by
  refine ⟨h.1, h.2.1, fun q hq => ?_⟩
  obtain ⟨v, h1, h2⟩ := mem_toL.mp hq
  rw [h2]
  exact h.2.2 _ _ h1
def nlg (o : Option Value) : Bool := match o with
  | some v => v.category == 1
  | none => true
def lset : List (Option Value) → Nat → Value → List (Option Value)
  | [], _, _ => []
  | _ :: r, 0, v => some v :: r
  | x :: r, i + 1, v => x :: lset r i v
def lse2 : List (Option Value) → Nat → Value → List (Option Value)
  | [], _, _ => []
  | [_], 0, _ => [none]
  | _ :: _ :: r, 0, v => some v :: none :: r
  | x :: r, i + 1, v => x :: lse2 r i v
theorem lset_get : ∀ (ls : List (Option Value)) (i : Nat) (v : Value) (j : Nat) (w : Value), (lset ls i v)[j]? = some (some w) → (j = i ∧ w = v) ∨ (j ≠ i ∧ ls[j]? = some (some w))
  | [], _, _, _, _, h => by simp [lset] at h
  | _ :: r, 0, v, j, w, h => by
    cases j with
    | zero => simp [lset] at h; exact Or.inl ⟨rfl, h.symm⟩
    | succ j => simp [lset] at h; exact Or.inr ⟨by omega, by simpa using h⟩
  | x :: r, i + 1, v, j, w, h => by
    cases j with
    | zero => simp [lset] at h; exact Or.inr ⟨by omega, by simpa using h⟩
    | succ j =>
      simp [lset] at h
      rcases lset_get r i v j w h with ⟨a, b⟩ | ⟨a, b⟩
      · exact Or.inl ⟨by omega, b⟩
      · exact Or.inr ⟨by omega, by simpa using b⟩
theorem lse2_get : ∀ (ls : List (Option Value)) (i : Nat) (v : Value) (j : Nat) (w : Value), (lse2 ls i v)[j]? = some (some w) → (j = i ∧ w = v) ∨ (j ≠ i ∧ j ≠ i + 1 ∧ ls[j]? = some (some w))
  | [], _, _, _, _, h => by simp [lse2] at h
  | [x], 0, v, j, w, h => by
    cases j with
    | zero => simp [lse2] at h
    | succ j => simp [lse2] at h
  | _ :: _ :: r, 0, v, j, w, h => by
    cases j with
    | zero => simp [lse2] at h; exact Or.inl ⟨rfl, h.symm⟩
    | succ j =>
      cases j with
      | zero => simp [lse2] at h
      | succ j => simp [lse2] at h; exact Or.inr ⟨by omega, by omega, by simpa using h⟩
  | [x], i + 1, v, j, w, h => by
    cases j with
    | zero => simp [lse2] at h; exact Or.inr ⟨by omega, by omega, by simpa using h⟩
    | succ j => simp [lse2] at h
  | x :: z :: r, i + 1, v, j, w, h => by
    cases j with
    | zero => simp [lse2] at h; exact Or.inr ⟨by omega, by omega, by simpa using h⟩
    | succ j =>
      have h' : (lse2 (z :: r) i v)[j]? = some (some w) := by simpa [lse2] using h
      rcases lse2_get (z :: r) i v j w h' with ⟨a, b⟩ | ⟨a, b, d⟩
      · exact Or.inl ⟨by omega, b⟩
      · exact Or.inr ⟨by omega, by omega, by simpa using d⟩
theorem LH.set1 {G : GX} {la : Array Slot} {nL i : Nat} {ls : List (Option Value)} {v : Value} (hp : ∀ w, ls[i - 1]? = some (some w) → 0 < i → w.category = 1) (h : lv_has la nL ((i, rv G v) :: (toL G ls).filter (fun q => !(q.1 == i) && !(q.1 + 1 == i && q.2.category == 2)))) : LH G la nL (lset ls i v) := by
  refine ⟨h.1, h.2.1, fun j w hj => ?_⟩
  rcases lset_get ls i v j w hj with ⟨rfl, rfl⟩ | ⟨hne, hw⟩
  · exact h.2.2 (j, rv G w) List.mem_cons_self
  · refine h.2.2 (j, rv G w) (List.mem_cons_of_mem _ (List.mem_filter.mpr ⟨mem_toL.mpr ⟨w, hw, rfl⟩, ?_⟩))
    have hc : j + 1 = i → w.category = 1 := fun e => hp w (by rw [← e]; exact hw) (by omega)
    simp only [Bool.and_eq_true, Bool.not_eq_true', beq_eq_false_iff_ne, ne_eq, Bool.and_eq_false_iff, rv_cat]
    refine ⟨hne, ?_⟩
    by_cases e : j + 1 = i
    · exact Or.inr (by rw [hc e]; decide)
    · exact Or.inl e
theorem LH.set2 {G : GX} {la : Array Slot} {nL i : Nat} {ls : List (Option Value)} {v : Value} (hp : ∀ w, ls[i - 1]? = some (some w) → 0 < i → w.category = 1) (h : lv_has la nL ((i, rv G v) :: (toL G ls).filter (fun q => !(q.1 == i) && (!(q.1 == i + 1) && !(q.1 + 1 == i && q.2.category == 2))))) : LH G la nL (lse2 ls i v) := by
  refine ⟨h.1, h.2.1, fun j w hj => ?_⟩
  rcases lse2_get ls i v j w hj with ⟨rfl, rfl⟩ | ⟨hne, hne2, hw⟩
  · exact h.2.2 (j, rv G w) List.mem_cons_self
  · refine h.2.2 (j, rv G w) (List.mem_cons_of_mem _ (List.mem_filter.mpr ⟨mem_toL.mpr ⟨w, hw, rfl⟩, ?_⟩))
    have hc : j + 1 = i → w.category = 1 := fun e => hp w (by rw [← e]; exact hw) (by omega)
    simp only [Bool.and_eq_true, Bool.not_eq_true', beq_eq_false_iff_ne, ne_eq, Bool.and_eq_false_iff, rv_cat]
    refine ⟨hne, hne2, ?_⟩
    by_cases e : j + 1 = i
    · exact Or.inr (by rw [hc e]; decide)
    · exact Or.inl e
/-- what was there before stays -/
theorem OLD.go {G : GX} {s U : State} {H : Heap} (h : OLD G s s.heap) (hz : s.heap.size ≤ H.size) (hk : ∀ q : Nat, q < s.heap.size → ¬ oldA G q → H[q]? = s.heap[q]?) (hW : s.WarmedH U.vm) : OLD G U H := by
  obtain ⟨h1, h2, h3, h4, h5, h6, h7⟩ := h
  have hb : H[G.old 8]? = s.heap[G.old 8]? := hk _ (by omega) (by unfold oldA; omega)
  exact ⟨(h1.kept hb).moved hW.alike, h2, (h3.kept hk).moved hW.alike, fun i hi => (h4 i hi).warm hW, (h5.kept hk).moved hW.alike, (h6.kept hk).moved hW.alike, Nat.le_trans h7 hz⟩
theorem EN.go {G : GX} {s U : State} {H : Heap} {locs : List Loc} (h : EN G s) (hS : va_S (oldA G) s.heap H locs) (hU : U.heap = H) (hW : s.WarmedH U.vm) : EN G U := by
  refine ⟨va_K.moved hW.alike h.1, ⟨fun q hq => (h.2.1.1 q hq).warmM hW, fun C hC => (h.2.1.2 C hC).moved hW.alike⟩, ?_⟩
  rw [hU]
  exact OLD.go h.2.2 hS.1 hS.2.1 hW
theorem EN.blind {G : GX} {U : State} (g : JFrame) (mk : MethodId) (a : Array Value) (h : EN G U) : EN G (U.calling g mk a) := by
  obtain ⟨hK, hX, h1, h2, h3, h4, h5, h6, h7⟩ := h
  refine ⟨va_K.moved (u := U) (U := U.calling g mk a) (Vm.Alike.refl U.vm) hK, ⟨fun q hq => (hX.1 q hq).same rfl rfl, fun C hC => (hX.2 C hC).moved (Vm.Alike.refl U.vm)⟩, ?_⟩
  have ha : U.vm.Alike (U.calling g mk a).vm := Vm.Alike.refl U.vm
  exact ⟨h1.moved ha, h2, h3.moved ha, fun i hi => (h4 i hi).same rfl, h5.moved ha, h6.moved ha, h7⟩
end
section
/-! what the start of the law gives -/
def tmS (i : Nat) : Term := .string RX3 (ixS.getD i 0)
def stC : Jvm.Cond := Jvm.Cond.and given_1 narrow_1
theorem st_ex : ∀ i, i < 8 → Cond.exactly (tmS i) "java/lang/String" ∈ flatC stC := by decide +kernel
theorem st_co : ∀ i, i < 8 → Cond.eq (.field (tmS i) "java/lang/String" "coder" "B") (.int 0) ∈ flatC stC := by decide +kernel
theorem st_ar : ∀ i, i < 8 → Cond.arrayOf (.field (tmS i) "java/lang/String" "value" "[B") .byte ∈ flatC stC := by decide +kernel
theorem st_le : ∀ i, i < 8 → Cond.eq (.length (.field (tmS i) "java/lang/String" "value" "[B")) (.int (Int32.ofNat (lnS.getD i 0))) ∈ flatC stC := by decide +kernel
theorem st_el : ∀ i, i < 8 → ∀ j, j < lnS.getD i 0 → Cond.eq (.elem (.field (tmS i) "java/lang/String" "value" "[B") (.int (Int32.ofNat j))) (.int ((byS.getD i []).getD j 0)) ∈ flatC stC := by decide +kernel
theorem st_ne : ∀ i, i < 8 → ∀ j, j < 8 → i ≠ j → Cond.not (Cond.eq (tmS i) (tmS j)) ∈ flatC stC ∨ Cond.not (Cond.eq (tmS j) (tmS i)) ∈ flatC stC := by decide +kernel
theorem st_cs : Cond.eq (Term.static "java/lang/String" "COMPACT_STRINGS" "Z") (Term.int 1) ∈ flatC stC ∧ Cond.isRef (.static "jdk/internal/util/Preconditions" "SIOOBE_FORMATTER" "Ljava/util/function/BiFunction;") ∈ flatC stC := by decide +kernel
set_option maxRecDepth 100000 in
theorem st_sr {P : Cond → Prop} (h : ∀ w ∈ lw_tbl, P w) : ∀ i, i < 8 → P (Cond.stringRef RX3 (ixS.getD i 0) (txS.getD i ""))
  | 0, _ => h _ (List.mem_append_right _ (List.mem_of_getElem? (i := 378) rfl))
  | 1, _ => h _ (List.mem_append_right _ (List.mem_of_getElem? (i := 447) rfl))
  | 2, _ => h _ (List.mem_append_right _ (List.mem_of_getElem? (i := 453) rfl))
  | 3, _ => h _ (List.mem_append_right _ (List.mem_of_getElem? (i := 458) rfl))
  | 4, _ => h _ (List.mem_append_right _ (List.mem_of_getElem? (i := 435) rfl))
  | 5, _ => h _ (List.mem_append_right _ (List.mem_of_getElem? (i := 436) rfl))
  | 6, _ => h _ (List.mem_append_right _ (List.mem_of_getElem? (i := 437) rfl))
  | 7, _ => h _ (List.mem_append_right _ (List.mem_of_getElem? (i := 438) rfl))
  | k + 8, hk => absurd hk (by omega)
set_option maxRecDepth 100000 in
theorem st_nest {U : State} {A : Array Value} (h : ∀ w ∈ lw_tbl, w.before A U = true) : EXT U := by
  refine ⟨?_, ?_⟩
  · unfold nestL
    refine List.forall_mem_cons.mpr ⟨va_Nw.of rfl (h _ (List.mem_append_right _ (List.mem_of_getElem? (i := 27) rfl))), List.forall_mem_cons.mpr ⟨va_Nw.of rfl (h _ (List.mem_append_right _ (List.mem_of_getElem? (i := 55) rfl))), List.forall_mem_cons.mpr ⟨va_Nw.of rfl (h _ (List.mem_append_right _ (List.mem_of_getElem? (i := 91) rfl))), List.forall_mem_cons.mpr ⟨va_Nw.of rfl (h _ (List.mem_append_right _ (List.mem_of_getElem? (i := 123) rfl))), List.forall_mem_cons.mpr ⟨va_Nw.of rfl (h _ (List.mem_append_right _ (List.mem_of_getElem? (i := 196) rfl))), List.forall_mem_cons.mpr ⟨va_Nw.of rfl (h _ (List.mem_append_right _ (List.mem_of_getElem? (i := 222) rfl))), List.forall_mem_cons.mpr ⟨va_Nw.of rfl (h _ (List.mem_append_right _ (List.mem_of_getElem? (i := 224) rfl))), List.forall_mem_cons.mpr ⟨va_Nw.of rfl (h _ (List.mem_append_right _ (List.mem_of_getElem? (i := 529) rfl))), List.forall_mem_cons.mpr ⟨va_Nw.of rfl (h _ (List.mem_append_right _ (List.mem_of_getElem? (i := 553) rfl))), List.forall_mem_cons.mpr ⟨va_Nw.of rfl (h _ (List.mem_append_right _ (List.mem_of_getElem? (i := 563) rfl))), List.forall_mem_cons.mpr ⟨va_Nw.of rfl (h _ (List.mem_append_right _ (List.mem_of_getElem? (i := 648) rfl))), List.forall_mem_cons.mpr ⟨va_Nw.of rfl (h _ (List.mem_append_right _ (List.mem_of_getElem? (i := 695) rfl))), List.forall_mem_cons.mpr ⟨va_Nw.of rfl (h _ (List.mem_append_right _ (List.mem_of_getElem? (i := 727) rfl))), List.forall_mem_cons.mpr ⟨va_Nw.of rfl (h _ (List.mem_append_right _ (List.mem_of_getElem? (i := 731) rfl))), List.forall_mem_cons.mpr ⟨va_Nw.of rfl (h _ (List.mem_append_right _ (List.mem_of_getElem? (i := 733) rfl))), fun _ h => absurd h List.not_mem_nil⟩⟩⟩⟩⟩⟩⟩⟩⟩⟩⟩⟩⟩⟩⟩
  · unfold overL
    refine List.forall_mem_cons.mpr ⟨va_AO.of (h _ (List.mem_append_right _ (List.mem_of_getElem? (i := 49) rfl))), List.forall_mem_cons.mpr ⟨va_AO.of (h _ (List.mem_append_right _ (List.mem_of_getElem? (i := 51) rfl))), List.forall_mem_cons.mpr ⟨va_AO.of (h _ (List.mem_append_right _ (List.mem_of_getElem? (i := 53) rfl))), List.forall_mem_cons.mpr ⟨va_AO.of (h _ (List.mem_append_right _ (List.mem_of_getElem? (i := 186) rfl))), List.forall_mem_cons.mpr ⟨va_AO.of (h _ (List.mem_append_right _ (List.mem_of_getElem? (i := 188) rfl))), fun _ h => absurd h List.not_mem_nil⟩⟩⟩⟩⟩
theorem st_a1 {U : State} {A : Array Value} {ty : FieldType} (hp : ∀ c, U.vm.findClass ("[" ++ ty.toString) = some c → va_RA U c ty) (h : (Cond.arrayClass ty).before A U = true) : ∃ c : ClassId, ArrOfT U c ty ∧ va_RA U c ty := by
  obtain ⟨c, k, comp, h1, h2, h3⟩ := Cond.arrayClass_spec h
  exact ⟨c, fun n z => ⟨fun k => by simp [arrV], k, h2, comp, h3⟩, hp c h1⟩
theorem st_a2 {U : State} {A : Array Value} {C : String} (h : (Cond.arrayOver (.object C)).before A U = true) : ∃ c : ClassId, ArrOfT U c (.object C) ∧ va_RA U c (.object C) := by
  obtain ⟨comp, c, k, h1, h2, h3, h4, h5⟩ := Cond.arrayOver_spec h
  exact ⟨c, fun n z => ⟨fun k => by simp [arrV], k, h3, comp, h4⟩, k, comp, h3, h4, h1, h5⟩
set_option maxRecDepth 100000 in
theorem st_arr {U : State} {A : Array Value} (h : ∀ w ∈ lw_tbl, w.before A U = true) : ∀ t, ∃ c : ClassId, t < 8 → ArrOfT U c (AT t) ∧ va_RA U c (AT t)
  | 0 => (st_a1 (ty := .int) (fun c h => h) (h _ (List.mem_append_right _ (List.mem_of_getElem? (i := 41) rfl)))).imp fun _ q _ => q
  | 1 => (st_a1 (ty := .long) (fun c h => h) (h _ (List.mem_append_right _ (List.mem_of_getElem? (i := 220) rfl)))).imp fun _ q _ => q
  | 2 => (st_a1 (ty := .boolean) (fun c h => h) (h _ (List.mem_append_right _ (List.mem_of_getElem? (i := 219) rfl)))).imp fun _ q _ => q
  | 3 => (st_a2 (C := "ClockTeeth$Figure") (h _ (List.mem_append_right _ (List.mem_of_getElem? (i := 49) rfl)))).imp fun _ q _ => q
  | 4 => (st_a2 (C := "ClockTeeth$Vote") (h _ (List.mem_append_right _ (List.mem_of_getElem? (i := 51) rfl)))).imp fun _ q _ => q
  | 5 => (st_a2 (C := "ClockTeeth$Sight") (h _ (List.mem_append_right _ (List.mem_of_getElem? (i := 53) rfl)))).imp fun _ q _ => q
  | 6 => (st_a2 (C := "ClockTeeth$Clock") (h _ (List.mem_append_right _ (List.mem_of_getElem? (i := 186) rfl)))).imp fun _ q _ => q
  | 7 => (st_a2 (C := "ClockTeeth$Sheet") (h _ (List.mem_append_right _ (List.mem_of_getElem? (i := 188) rfl)))).imp fun _ q _ => q
  | k + 8 => ⟨default, fun hk => absurd hk (by omega)⟩
set_option maxRecDepth 100000 in
theorem st_cl {U : State} {A : Array Value} (h : ∀ w ∈ lw_tbl, w.before A U = true) : ∃ D : va_G, ∀ (c : Nat) (q : vw_C), vwCl[c]? = some q → u_Kn U q.1 q.2.1 q.2.2 (D.1 c) (D.2 c) := by
  have h0 : ∀ w ∈ u_ws RX0 TX0 10, w ∈ lw_tbl := by decide +kernel
  obtain ⟨c0, i0, k0⟩ := u_known (C := RX0) (T := TX0) (N := 10) (n := 10) h h0 (h (.instantiable RX0 10) (List.mem_append_right _ (List.mem_of_getElem? (i := 43) rfl)))
  have h1 : ∀ w ∈ u_ws RX1 TX1 5, w ∈ lw_tbl := by decide +kernel
  obtain ⟨c1, i1, k1⟩ := u_known (C := RX1) (T := TX1) (N := 5) (n := 5) h h1 (h (.instantiable RX1 5) (List.mem_append_right _ (List.mem_of_getElem? (i := 54) rfl)))
  have h2 : ∀ w ∈ u_ws RX2 TX2 7, w ∈ lw_tbl := by decide +kernel
  obtain ⟨c2, i2, k2⟩ := u_known (C := RX2) (T := TX2) (N := 7) (n := 7) h h2 (h (.instantiable RX2 7) (List.mem_append_right _ (List.mem_of_getElem? (i := 190) rfl)))
  have h3 : ∀ w ∈ u_ws RX3 TX3 9, w ∈ lw_tbl := by decide +kernel
  obtain ⟨c3, i3, k3⟩ := u_known (C := RX3) (T := TX3) (N := 9) (n := 9) h h3 (h (.instantiable RX3 9) (List.mem_append_right _ (List.mem_of_getElem? (i := 299) rfl)))
  have h4 : ∀ w ∈ u_ws RX4 TX4 3, w ∈ lw_tbl := by decide +kernel
  obtain ⟨c4, i4, k4⟩ := u_known (C := RX4) (T := TX4) (N := 3) (n := 3) h h4 (h (.instantiable RX4 3) (List.mem_append_right _ (List.mem_of_getElem? (i := 223) rfl)))
  have h5 : ∀ w ∈ u_ws RX5 TX5 3, w ∈ lw_tbl := by decide +kernel
  obtain ⟨c5, i5, k5⟩ := u_known (C := RX5) (T := TX5) (N := 3) (n := 3) h h5 (h (.instantiable RX5 3) (List.mem_append_right _ (List.mem_of_getElem? (i := 122) rfl)))
  have h6 : ∀ w ∈ u_ws RX6 TX6 2, w ∈ lw_tbl := by decide +kernel
  obtain ⟨c6, i6, k6⟩ := u_known (C := RX6) (T := TX6) (N := 2) (n := 2) h h6 (h (.instantiable RX6 2) (List.mem_append_right _ (List.mem_of_getElem? (i := 26) rfl)))
  have h7 : ∀ w ∈ u_ws RX7 TX7 5, w ∈ lw_tbl := by decide +kernel
  obtain ⟨c7, i7, k7⟩ := u_known (C := RX7) (T := TX7) (N := 5) (n := 5) h h7 (h (.instantiable RX7 5) (List.mem_append_right _ (List.mem_of_getElem? (i := 90) rfl)))
  have h8 : ∀ w ∈ u_ws RX8 TX8 13, w ∈ lw_tbl := by decide +kernel
  obtain ⟨c8, i8, k8⟩ := u_known (C := RX8) (T := TX8) (N := 13) (n := 13) h h8 (h (.instantiable RX8 13) (List.mem_append_right _ (List.mem_of_getElem? (i := 18) rfl)))
  have h9 : ∀ w ∈ u_ws RX9 TX9 27, w ∈ lw_tbl := by decide +kernel
  obtain ⟨c9, i9, k9⟩ := u_known (C := RX9) (T := TX9) (N := 27) (n := 27) h h9 (h (.instantiable RX9 27) (List.mem_append_right _ (List.mem_of_getElem? (i := 886) rfl)))
  refine ⟨(fun k => match k with | 0 => c0 | 1 => c1 | 2 => c2 | 3 => c3 | 4 => c4 | 5 => c5 | 6 => c6 | 7 => c7 | 8 => c8 | _ => c9, fun k => match k with | 0 => i0 | 1 => i1 | 2 => i2 | 3 => i3 | 4 => i4 | 5 => i5 | 6 => i6 | 7 => i7 | 8 => i8 | _ => i9), fun c q hq => ?_⟩
  match c, hq with
  | 0, hq => cases hq; exact k0
  | 1, hq => cases hq; exact k1
  | 2, hq => cases hq; exact k2
  | 3, hq => cases hq; exact k3
  | 4, hq => cases hq; exact k4
  | 5, hq => cases hq; exact k5
  | 6, hq => cases hq; exact k6
  | 7, hq => cases hq; exact k7
  | 8, hq => cases hq; exact k8
  | 9, hq => cases hq; exact k9
  | c + 10, hq => simp [vwCl] at hq
set_option maxRecDepth 100000 in
theorem st_EN {s : State} {b L : Nat} {xs : Nat → Int32} (l : Launch) (hts : ∀ w ∈ lw_tbl, w.before #[Value.ref b] s = true) (hX : va_X b L xs s s.heap) (hbl : b < s.heap.size) (hgv : (Jvm.Cond.and given_1 narrow_1).before #[Value.ref b] s = true) : ∃ G : GX, G.l = l ∧ G.base = s.heap.size ∧ G.old 8 = b ∧ G.len = L ∧ G.xs = xs ∧ EN G s := by
  have hf : ∀ c ∈ flatC stC, c.before #[Value.ref b] s = true := flat_of_before _ hgv
  obtain ⟨D, hD⟩ := st_cl hts
  obtain ⟨ca, hca⟩ := Classical.axiomOfChoice (st_arr hts)
  have hA : ∀ a : Nat, a < s.heap.size → ¬ (fun q : Nat => s.heap.size ≤ q) a := fun a ha hq => Nat.not_le.mpr ha hq
  obtain ⟨adK, adV, hS, hE⟩ := vk_Sof (args := #[Value.ref b]) (s := s) (N := 8) (tm := tmS) (len := lnS) (byt := byS) (A := fun q : Nat => s.heap.size ≤ q) (by decide) (fun i hi => hf _ (st_ex i hi)) (fun i hi => hf _ (st_co i hi)) (fun i hi => hf _ (st_ar i hi)) (fun i hi => hf _ (st_le i hi)) (fun i hi j hj => hf _ (st_el i hi j hj)) (fun i j hi hj hij => (st_ne i hi j hj hij).imp (hf _) (hf _)) hA
  refine ⟨(l, D, ca, s.heap.size, fun k => if k < 8 then adK k else b, adV, L, xs), rfl, rfl, rfl, rfl, rfl, ⟨hD, ?_⟩, st_nest hts, hX, hbl, ⟨fun i hi => ?_, fun i j hi hj e => ?_⟩, fun i hi => ?_, ?_, ?_, Nat.le_refl _⟩
  · intro k q hq
    have hq : [(ca 0, AT 0), (ca 1, AT 1), (ca 2, AT 2), (ca 3, AT 3), (ca 4, AT 4), (ca 5, AT 5), (ca 6, AT 6), (ca 7, AT 7)][k]? = some q := hq
    match k, hq with
    | 0, hq => cases hq; exact hca 0 (by decide)
    | 1, hq => cases hq; exact hca 1 (by decide)
    | 2, hq => cases hq; exact hca 2 (by decide)
    | 3, hq => cases hq; exact hca 3 (by decide)
    | 4, hq => cases hq; exact hca 4 (by decide)
    | 5, hq => cases hq; exact hca 5 (by decide)
    | 6, hq => cases hq; exact hca 6 (by decide)
    | 7, hq => cases hq; exact hca 7 (by decide)
    | k + 8, hq => simp at hq
  · have h := hS.1 i hi
    show va_O "java/lang/String" (if i < 8 then adK i else b) _ s s.heap ∧ va_OF "java/lang/String" "coder" "B" (.int 0) (if i < 8 then adK i else b) _ s s.heap ∧ va_OF "java/lang/String" "value" "[B" (.ref (adV i)) (if i < 8 then adK i else b) _ s s.heap ∧ _
    rw [if_pos hi]
    exact h
  · refine hS.2 i j hi hj ?_
    have e : (if i < 8 then adK i else b) = (if j < 8 then adK j else b) := e
    rw [if_pos hi, if_pos hj] at e
    exact e
  · show vk_R RX3 (ixS.getD i 0) (txS.getD i "") (if i < 8 then adK i else b) s
    rw [if_pos hi]
    exact vk_R.of (A := #[Value.ref b]) (st_sr (P := fun w => w.before #[Value.ref b] s = true) hts i hi) (hE i hi)
  · exact va_Zof (hts _ (List.mem_append_right _ (List.mem_of_getElem? (i := 392) rfl))) (hts _ (List.mem_append_right _ (List.mem_of_getElem? (i := 11) rfl))) (va_eqt (hf _ st_cs.1)) hA
  · exact va_Zqof (hts _ (List.mem_append_right _ (List.mem_of_getElem? (i := 408) rfl))) (hts _ (List.mem_append_right _ (List.mem_of_getElem? (i := 13) rfl))) (hf _ st_cs.2) hA
end
