-- ===== PART A: goes FIRST, ahead of the names: the tables' words, and 'selects' of the private methods out of them =====
/-- a private method of a class that the tables say can be made, by its rows of tables_1 -/
def lw_okq (q : MethodName × Nat) : Prop := (q.1.cls ≠ "java/lang/invoke/MethodHandle" ∧ q.1.cls ≠ "java/lang/invoke/VarHandle") ∧ Cond.instantiable q.1.cls q.2 ∈ tables_1 ∧ Cond.privateMethod q.1 ∈ tables_1 ∧ Cond.instanceMethod q.1 ∈ tables_1
theorem lw_p0 : lw_okq (⟨"HowBigTank$Page", "takeHouse", "()V"⟩, 6) := ⟨⟨by decide +kernel, by decide +kernel⟩, List.mem_of_getElem? (i := 24) (by decide +kernel), List.mem_of_getElem? (i := 444) (by decide +kernel), List.mem_of_getElem? (i := 445) (by decide +kernel)⟩
theorem lw_p1 : lw_okq (⟨"HowBigTank$Page", "takeNamed", "(III)V"⟩, 6) := ⟨⟨by decide +kernel, by decide +kernel⟩, List.mem_of_getElem? (i := 24) (by decide +kernel), List.mem_of_getElem? (i := 450) (by decide +kernel), List.mem_of_getElem? (i := 451) (by decide +kernel)⟩
theorem lw_p2 : lw_okq (⟨"HowBigTank$Page", "takeSign", "(I)V"⟩, 6) := ⟨⟨by decide +kernel, by decide +kernel⟩, List.mem_of_getElem? (i := 24) (by decide +kernel), List.mem_of_getElem? (i := 454) (by decide +kernel), List.mem_of_getElem? (i := 455) (by decide +kernel)⟩
theorem lw_p3 : lw_okq (⟨"HowBigTank$Page", "sees", "(I)Z"⟩, 6) := ⟨⟨by decide +kernel, by decide +kernel⟩, List.mem_of_getElem? (i := 24) (by decide +kernel), List.mem_of_getElem? (i := 458) (by decide +kernel), List.mem_of_getElem? (i := 459) (by decide +kernel)⟩
theorem lw_p4 : lw_okq (⟨"HowBigTank$Page", "takeNumber", "(II)I"⟩, 6) := ⟨⟨by decide +kernel, by decide +kernel⟩, List.mem_of_getElem? (i := 24) (by decide +kernel), List.mem_of_getElem? (i := 464) (by decide +kernel), List.mem_of_getElem? (i := 465) (by decide +kernel)⟩
theorem lw_p5 : lw_okq (⟨"HowBigTank$Page", "digitAhead", "()I"⟩, 6) := ⟨⟨by decide +kernel, by decide +kernel⟩, List.mem_of_getElem? (i := 24) (by decide +kernel), List.mem_of_getElem? (i := 468) (by decide +kernel), List.mem_of_getElem? (i := 469) (by decide +kernel)⟩
theorem lw_p6 : lw_okq (⟨"HowBigTank$Page", "takeUse", "(I)V"⟩, 6) := ⟨⟨by decide +kernel, by decide +kernel⟩, List.mem_of_getElem? (i := 24) (by decide +kernel), List.mem_of_getElem? (i := 472) (by decide +kernel), List.mem_of_getElem? (i := 473) (by decide +kernel)⟩
theorem lw_p7 : lw_okq (⟨"HowBigTank$Page", "takeYear", "()V"⟩, 6) := ⟨⟨by decide +kernel, by decide +kernel⟩, List.mem_of_getElem? (i := 24) (by decide +kernel), List.mem_of_getElem? (i := 476) (by decide +kernel), List.mem_of_getElem? (i := 477) (by decide +kernel)⟩
theorem lw_p8 : lw_okq (⟨"HowBigTank$Page", "takeRule", "()V"⟩, 6) := ⟨⟨by decide +kernel, by decide +kernel⟩, List.mem_of_getElem? (i := 24) (by decide +kernel), List.mem_of_getElem? (i := 480) (by decide +kernel), List.mem_of_getElem? (i := 481) (by decide +kernel)⟩
theorem lw_p9 : lw_okq (⟨"HowBigTank$House", "orderByWorth", "()V"⟩, 7) := ⟨⟨by decide +kernel, by decide +kernel⟩, List.mem_of_getElem? (i := 56) (by decide +kernel), List.mem_of_getElem? (i := 498) (by decide +kernel), List.mem_of_getElem? (i := 499) (by decide +kernel)⟩
theorem lw_p10 : lw_okq (⟨"HowBigTank", "isNoRule", "(I)Z"⟩, 16) := ⟨⟨by decide +kernel, by decide +kernel⟩, List.mem_of_getElem? (i := 16) (by decide +kernel), List.mem_of_getElem? (i := 527) (by decide +kernel), List.mem_of_getElem? (i := 528) (by decide +kernel)⟩
theorem lw_p11 : lw_okq (⟨"HowBigTank", "isNoYear", "(I)Z"⟩, 16) := ⟨⟨by decide +kernel, by decide +kernel⟩, List.mem_of_getElem? (i := 16) (by decide +kernel), List.mem_of_getElem? (i := 558) (by decide +kernel), List.mem_of_getElem? (i := 559) (by decide +kernel)⟩
theorem lw_p12 : lw_okq (⟨"HowBigTank", "lacksHouseOrYear", "()Z"⟩, 16) := ⟨⟨by decide +kernel, by decide +kernel⟩, List.mem_of_getElem? (i := 16) (by decide +kernel), List.mem_of_getElem? (i := 569) (by decide +kernel), List.mem_of_getElem? (i := 570) (by decide +kernel)⟩
theorem lw_p13 : lw_okq (⟨"HowBigTank", "passAllYears", "(LHowBigTank$Rule;)V"⟩, 16) := ⟨⟨by decide +kernel, by decide +kernel⟩, List.mem_of_getElem? (i := 16) (by decide +kernel), List.mem_of_getElem? (i := 573) (by decide +kernel), List.mem_of_getElem? (i := 574) (by decide +kernel)⟩
theorem lw_p14 : lw_okq (⟨"HowBigTank", "makeWise", "(LHowBigTank$Rule;)V"⟩, 16) := ⟨⟨by decide +kernel, by decide +kernel⟩, List.mem_of_getElem? (i := 16) (by decide +kernel), List.mem_of_getElem? (i := 577) (by decide +kernel), List.mem_of_getElem? (i := 578) (by decide +kernel)⟩
theorem lw_p15 : lw_okq (⟨"HowBigTank$Wisdom", "weighGiven", "(IJ)V"⟩, 11) := ⟨⟨by decide +kernel, by decide +kernel⟩, List.mem_of_getElem? (i := 186) (by decide +kernel), List.mem_of_getElem? (i := 588) (by decide +kernel), List.mem_of_getElem? (i := 589) (by decide +kernel)⟩
def lw_privs_1 : List (MethodName × Nat) := [(⟨"HowBigTank$Page", "takeHouse", "()V"⟩, 6), (⟨"HowBigTank$Page", "takeNamed", "(III)V"⟩, 6), (⟨"HowBigTank$Page", "takeSign", "(I)V"⟩, 6), (⟨"HowBigTank$Page", "sees", "(I)Z"⟩, 6), (⟨"HowBigTank$Page", "takeNumber", "(II)I"⟩, 6), (⟨"HowBigTank$Page", "digitAhead", "()I"⟩, 6), (⟨"HowBigTank$Page", "takeUse", "(I)V"⟩, 6), (⟨"HowBigTank$Page", "takeYear", "()V"⟩, 6), (⟨"HowBigTank$Page", "takeRule", "()V"⟩, 6), (⟨"HowBigTank$House", "orderByWorth", "()V"⟩, 7), (⟨"HowBigTank", "isNoRule", "(I)Z"⟩, 16), (⟨"HowBigTank", "isNoYear", "(I)Z"⟩, 16), (⟨"HowBigTank", "lacksHouseOrYear", "()Z"⟩, 16), (⟨"HowBigTank", "passAllYears", "(LHowBigTank$Rule;)V"⟩, 16), (⟨"HowBigTank", "makeWise", "(LHowBigTank$Rule;)V"⟩, 16), (⟨"HowBigTank$Wisdom", "weighGiven", "(IJ)V"⟩, 11)]
theorem lw_r1 : ∀ q ∈ lw_privs_1, lw_okq q := List.forall_mem_cons.mpr ⟨lw_p0, List.forall_mem_cons.mpr ⟨lw_p1, List.forall_mem_cons.mpr ⟨lw_p2, List.forall_mem_cons.mpr ⟨lw_p3, List.forall_mem_cons.mpr ⟨lw_p4, List.forall_mem_cons.mpr ⟨lw_p5, List.forall_mem_cons.mpr ⟨lw_p6, List.forall_mem_cons.mpr ⟨lw_p7, List.forall_mem_cons.mpr ⟨lw_p8, List.forall_mem_cons.mpr ⟨lw_p9, List.forall_mem_cons.mpr ⟨lw_p10, List.forall_mem_cons.mpr ⟨lw_p11, List.forall_mem_cons.mpr ⟨lw_p12, List.forall_mem_cons.mpr ⟨lw_p13, List.forall_mem_cons.mpr ⟨lw_p14, List.forall_mem_cons.mpr ⟨lw_p15, fun _ h => absurd h List.not_mem_nil⟩⟩⟩⟩⟩⟩⟩⟩⟩⟩⟩⟩⟩⟩⟩⟩
theorem lw_p16 : lw_okq (⟨"HowBigTank$Wisdom", "chooseGiven", "(I)V"⟩, 11) := ⟨⟨by decide +kernel, by decide +kernel⟩, List.mem_of_getElem? (i := 186) (by decide +kernel), List.mem_of_getElem? (i := 596) (by decide +kernel), List.mem_of_getElem? (i := 597) (by decide +kernel)⟩
theorem lw_p17 : lw_okq (⟨"HowBigTank$Wisdom", "choosePumped", "(IIJ)V"⟩, 11) := ⟨⟨by decide +kernel, by decide +kernel⟩, List.mem_of_getElem? (i := 186) (by decide +kernel), List.mem_of_getElem? (i := 602) (by decide +kernel), List.mem_of_getElem? (i := 603) (by decide +kernel)⟩
theorem lw_p18 : lw_okq (⟨"HowBigTank$Wisdom", "lookBack", "(I)V"⟩, 11) := ⟨⟨by decide +kernel, by decide +kernel⟩, List.mem_of_getElem? (i := 186) (by decide +kernel), List.mem_of_getElem? (i := 610) (by decide +kernel), List.mem_of_getElem? (i := 611) (by decide +kernel)⟩
theorem lw_p19 : lw_okq (⟨"HowBigTank$Tank", "choosePumpedAndGiven", "(LHowBigTank$Rule;I)I"⟩, 15) := ⟨⟨by decide +kernel, by decide +kernel⟩, List.mem_of_getElem? (i := 232) (by decide +kernel), List.mem_of_getElem? (i := 635) (by decide +kernel), List.mem_of_getElem? (i := 636) (by decide +kernel)⟩
theorem lw_p20 : lw_okq (⟨"HowBigTank$Run", "addMonth", "(I)V"⟩, 9) := ⟨⟨by decide +kernel, by decide +kernel⟩, List.mem_of_getElem? (i := 295) (by decide +kernel), List.mem_of_getElem? (i := 646) (by decide +kernel), List.mem_of_getElem? (i := 647) (by decide +kernel)⟩
theorem lw_p21 : lw_okq (⟨"HowBigTank$Run", "costBelow", "(LHowBigTank$Rule;III)I"⟩, 9) := ⟨⟨by decide +kernel, by decide +kernel⟩, List.mem_of_getElem? (i := 295) (by decide +kernel), List.mem_of_getElem? (i := 687) (by decide +kernel), List.mem_of_getElem? (i := 688) (by decide +kernel)⟩
theorem lw_p22 : lw_okq (⟨"HowBigTank$Drawn", "layOut", "(LHowBigTank$Rule;II)V"⟩, 9) := ⟨⟨by decide +kernel, by decide +kernel⟩, List.mem_of_getElem? (i := 335) (by decide +kernel), List.mem_of_getElem? (i := 706) (by decide +kernel), List.mem_of_getElem? (i := 707) (by decide +kernel)⟩
theorem lw_p23 : lw_okq (⟨"HowBigTank$Drawn", "layOutState", "(LHowBigTank$Rule;II)V"⟩, 9) := ⟨⟨by decide +kernel, by decide +kernel⟩, List.mem_of_getElem? (i := 335) (by decide +kernel), List.mem_of_getElem? (i := 711) (by decide +kernel), List.mem_of_getElem? (i := 712) (by decide +kernel)⟩
theorem lw_p24 : lw_okq (⟨"HowBigTank$Drawn", "startFull", "()V"⟩, 9) := ⟨⟨by decide +kernel, by decide +kernel⟩, List.mem_of_getElem? (i := 335) (by decide +kernel), List.mem_of_getElem? (i := 716) (by decide +kernel), List.mem_of_getElem? (i := 717) (by decide +kernel)⟩
theorem lw_p25 : lw_okq (⟨"HowBigTank$Drawn", "letRain", "(I)V"⟩, 9) := ⟨⟨by decide +kernel, by decide +kernel⟩, List.mem_of_getElem? (i := 335) (by decide +kernel), List.mem_of_getElem? (i := 722) (by decide +kernel), List.mem_of_getElem? (i := 723) (by decide +kernel)⟩
theorem lw_p26 : lw_okq (⟨"HowBigTank$Drawn", "draw", "(IZ)J"⟩, 9) := ⟨⟨by decide +kernel, by decide +kernel⟩, List.mem_of_getElem? (i := 335) (by decide +kernel), List.mem_of_getElem? (i := 727) (by decide +kernel), List.mem_of_getElem? (i := 728) (by decide +kernel)⟩
theorem lw_p27 : lw_okq (⟨"HowBigTank", "inLowestTerms", "(JI)J"⟩, 16) := ⟨⟨by decide +kernel, by decide +kernel⟩, List.mem_of_getElem? (i := 16) (by decide +kernel), List.mem_of_getElem? (i := 731) (by decide +kernel), List.mem_of_getElem? (i := 732) (by decide +kernel)⟩
theorem lw_p28 : lw_okq (⟨"HowBigTank$Drawn", "costAsLaidOut", "()J"⟩, 9) := ⟨⟨by decide +kernel, by decide +kernel⟩, List.mem_of_getElem? (i := 335) (by decide +kernel), List.mem_of_getElem? (i := 743) (by decide +kernel), List.mem_of_getElem? (i := 744) (by decide +kernel)⟩
theorem lw_p29 : lw_okq (⟨"HowBigTank", "readingsKept", "()I"⟩, 16) := ⟨⟨by decide +kernel, by decide +kernel⟩, List.mem_of_getElem? (i := 16) (by decide +kernel), List.mem_of_getElem? (i := 796) (by decide +kernel), List.mem_of_getElem? (i := 797) (by decide +kernel)⟩
theorem lw_p30 : lw_okq (⟨"HowBigTankModel", "faultOf", "(I)I"⟩, 46) := ⟨⟨by decide +kernel, by decide +kernel⟩, List.mem_of_getElem? (i := 816) (by decide +kernel), List.mem_of_getElem? (i := 978) (by decide +kernel), List.mem_of_getElem? (i := 979) (by decide +kernel)⟩
theorem lw_p31 : lw_okq (⟨"HowBigTankModel", "goHouse", "(I)Z"⟩, 46) := ⟨⟨by decide +kernel, by decide +kernel⟩, List.mem_of_getElem? (i := 816) (by decide +kernel), List.mem_of_getElem? (i := 982) (by decide +kernel), List.mem_of_getElem? (i := 983) (by decide +kernel)⟩
def lw_privs_2 : List (MethodName × Nat) := [(⟨"HowBigTank$Wisdom", "chooseGiven", "(I)V"⟩, 11), (⟨"HowBigTank$Wisdom", "choosePumped", "(IIJ)V"⟩, 11), (⟨"HowBigTank$Wisdom", "lookBack", "(I)V"⟩, 11), (⟨"HowBigTank$Tank", "choosePumpedAndGiven", "(LHowBigTank$Rule;I)I"⟩, 15), (⟨"HowBigTank$Run", "addMonth", "(I)V"⟩, 9), (⟨"HowBigTank$Run", "costBelow", "(LHowBigTank$Rule;III)I"⟩, 9), (⟨"HowBigTank$Drawn", "layOut", "(LHowBigTank$Rule;II)V"⟩, 9), (⟨"HowBigTank$Drawn", "layOutState", "(LHowBigTank$Rule;II)V"⟩, 9), (⟨"HowBigTank$Drawn", "startFull", "()V"⟩, 9), (⟨"HowBigTank$Drawn", "letRain", "(I)V"⟩, 9), (⟨"HowBigTank$Drawn", "draw", "(IZ)J"⟩, 9), (⟨"HowBigTank", "inLowestTerms", "(JI)J"⟩, 16), (⟨"HowBigTank$Drawn", "costAsLaidOut", "()J"⟩, 9), (⟨"HowBigTank", "readingsKept", "()I"⟩, 16), (⟨"HowBigTankModel", "faultOf", "(I)I"⟩, 46), (⟨"HowBigTankModel", "goHouse", "(I)Z"⟩, 46)]
theorem lw_r2 : ∀ q ∈ lw_privs_2, lw_okq q := List.forall_mem_cons.mpr ⟨lw_p16, List.forall_mem_cons.mpr ⟨lw_p17, List.forall_mem_cons.mpr ⟨lw_p18, List.forall_mem_cons.mpr ⟨lw_p19, List.forall_mem_cons.mpr ⟨lw_p20, List.forall_mem_cons.mpr ⟨lw_p21, List.forall_mem_cons.mpr ⟨lw_p22, List.forall_mem_cons.mpr ⟨lw_p23, List.forall_mem_cons.mpr ⟨lw_p24, List.forall_mem_cons.mpr ⟨lw_p25, List.forall_mem_cons.mpr ⟨lw_p26, List.forall_mem_cons.mpr ⟨lw_p27, List.forall_mem_cons.mpr ⟨lw_p28, List.forall_mem_cons.mpr ⟨lw_p29, List.forall_mem_cons.mpr ⟨lw_p30, List.forall_mem_cons.mpr ⟨lw_p31, fun _ h => absurd h List.not_mem_nil⟩⟩⟩⟩⟩⟩⟩⟩⟩⟩⟩⟩⟩⟩⟩⟩
theorem lw_p32 : lw_okq (⟨"HowBigTankModel", "goNumber", "(I)Z"⟩, 46) := ⟨⟨by decide +kernel, by decide +kernel⟩, List.mem_of_getElem? (i := 816) (by decide +kernel), List.mem_of_getElem? (i := 988) (by decide +kernel), List.mem_of_getElem? (i := 989) (by decide +kernel)⟩
theorem lw_p33 : lw_okq (⟨"HowBigTankModel", "placeOf", "(I)I"⟩, 46) := ⟨⟨by decide +kernel, by decide +kernel⟩, List.mem_of_getElem? (i := 816) (by decide +kernel), List.mem_of_getElem? (i := 992) (by decide +kernel), List.mem_of_getElem? (i := 993) (by decide +kernel)⟩
theorem lw_p34 : lw_okq (⟨"HowBigTankModel", "goYear", "(I)Z"⟩, 46) := ⟨⟨by decide +kernel, by decide +kernel⟩, List.mem_of_getElem? (i := 816) (by decide +kernel), List.mem_of_getElem? (i := 1005) (by decide +kernel), List.mem_of_getElem? (i := 1006) (by decide +kernel)⟩
theorem lw_p35 : lw_okq (⟨"HowBigTankModel", "goTold", "(I)Z"⟩, 46) := ⟨⟨by decide +kernel, by decide +kernel⟩, List.mem_of_getElem? (i := 816) (by decide +kernel), List.mem_of_getElem? (i := 1009) (by decide +kernel), List.mem_of_getElem? (i := 1010) (by decide +kernel)⟩
theorem lw_p36 : lw_okq (⟨"HowBigTankModel", "isRule", "(I)Z"⟩, 46) := ⟨⟨by decide +kernel, by decide +kernel⟩, List.mem_of_getElem? (i := 816) (by decide +kernel), List.mem_of_getElem? (i := 1036) (by decide +kernel), List.mem_of_getElem? (i := 1037) (by decide +kernel)⟩
theorem lw_p37 : lw_okq (⟨"HowBigTankModel", "lacks", "()Z"⟩, 46) := ⟨⟨by decide +kernel, by decide +kernel⟩, List.mem_of_getElem? (i := 816) (by decide +kernel), List.mem_of_getElem? (i := 1060) (by decide +kernel), List.mem_of_getElem? (i := 1061) (by decide +kernel)⟩
theorem lw_p38 : lw_okq (⟨"HowBigTankModel", "goRun", "(I)V"⟩, 46) := ⟨⟨by decide +kernel, by decide +kernel⟩, List.mem_of_getElem? (i := 816) (by decide +kernel), List.mem_of_getElem? (i := 1066) (by decide +kernel), List.mem_of_getElem? (i := 1067) (by decide +kernel)⟩
theorem lw_p39 : lw_okq (⟨"HowBigTankModel", "layWise", "()V"⟩, 46) := ⟨⟨by decide +kernel, by decide +kernel⟩, List.mem_of_getElem? (i := 816) (by decide +kernel), List.mem_of_getElem? (i := 1070) (by decide +kernel), List.mem_of_getElem? (i := 1071) (by decide +kernel)⟩
theorem lw_p40 : lw_okq (⟨"HowBigTankModel", "layThen", "(I)V"⟩, 46) := ⟨⟨by decide +kernel, by decide +kernel⟩, List.mem_of_getElem? (i := 816) (by decide +kernel), List.mem_of_getElem? (i := 1074) (by decide +kernel), List.mem_of_getElem? (i := 1075) (by decide +kernel)⟩
theorem lw_p41 : lw_okq (⟨"HowBigTankModel", "begin", "(IIZI)V"⟩, 46) := ⟨⟨by decide +kernel, by decide +kernel⟩, List.mem_of_getElem? (i := 816) (by decide +kernel), List.mem_of_getElem? (i := 1078) (by decide +kernel), List.mem_of_getElem? (i := 1079) (by decide +kernel)⟩
theorem lw_p42 : lw_okq (⟨"HowBigTankModel", "chooseWise", "(IIIJ)V"⟩, 46) := ⟨⟨by decide +kernel, by decide +kernel⟩, List.mem_of_getElem? (i := 816) (by decide +kernel), List.mem_of_getElem? (i := 1085) (by decide +kernel), List.mem_of_getElem? (i := 1086) (by decide +kernel)⟩
theorem lw_p43 : lw_okq (⟨"HowBigTankModel", "mostPumped", "(II)I"⟩, 46) := ⟨⟨by decide +kernel, by decide +kernel⟩, List.mem_of_getElem? (i := 816) (by decide +kernel), List.mem_of_getElem? (i := 1089) (by decide +kernel), List.mem_of_getElem? (i := 1090) (by decide +kernel)⟩
theorem lw_p44 : lw_okq (⟨"HowBigTankModel", "allWants", "(I)I"⟩, 46) := ⟨⟨by decide +kernel, by decide +kernel⟩, List.mem_of_getElem? (i := 816) (by decide +kernel), List.mem_of_getElem? (i := 1093) (by decide +kernel), List.mem_of_getElem? (i := 1094) (by decide +kernel)⟩
theorem lw_p45 : lw_okq (⟨"HowBigTankModel", "want", "(II)I"⟩, 46) := ⟨⟨by decide +kernel, by decide +kernel⟩, List.mem_of_getElem? (i := 816) (by decide +kernel), List.mem_of_getElem? (i := 1097) (by decide +kernel), List.mem_of_getElem? (i := 1098) (by decide +kernel)⟩
theorem lw_p46 : lw_okq (⟨"HowBigTankModel", "give", "(IIZZ)V"⟩, 46) := ⟨⟨by decide +kernel, by decide +kernel⟩, List.mem_of_getElem? (i := 816) (by decide +kernel), List.mem_of_getElem? (i := 1101) (by decide +kernel), List.mem_of_getElem? (i := 1102) (by decide +kernel)⟩
theorem lw_p47 : lw_okq (⟨"HowBigTankModel", "nextUse", "(IZ)I"⟩, 46) := ⟨⟨by decide +kernel, by decide +kernel⟩, List.mem_of_getElem? (i := 816) (by decide +kernel), List.mem_of_getElem? (i := 1105) (by decide +kernel), List.mem_of_getElem? (i := 1106) (by decide +kernel)⟩
def lw_privs_3 : List (MethodName × Nat) := [(⟨"HowBigTankModel", "goNumber", "(I)Z"⟩, 46), (⟨"HowBigTankModel", "placeOf", "(I)I"⟩, 46), (⟨"HowBigTankModel", "goYear", "(I)Z"⟩, 46), (⟨"HowBigTankModel", "goTold", "(I)Z"⟩, 46), (⟨"HowBigTankModel", "isRule", "(I)Z"⟩, 46), (⟨"HowBigTankModel", "lacks", "()Z"⟩, 46), (⟨"HowBigTankModel", "goRun", "(I)V"⟩, 46), (⟨"HowBigTankModel", "layWise", "()V"⟩, 46), (⟨"HowBigTankModel", "layThen", "(I)V"⟩, 46), (⟨"HowBigTankModel", "begin", "(IIZI)V"⟩, 46), (⟨"HowBigTankModel", "chooseWise", "(IIIJ)V"⟩, 46), (⟨"HowBigTankModel", "mostPumped", "(II)I"⟩, 46), (⟨"HowBigTankModel", "allWants", "(I)I"⟩, 46), (⟨"HowBigTankModel", "want", "(II)I"⟩, 46), (⟨"HowBigTankModel", "give", "(IIZZ)V"⟩, 46), (⟨"HowBigTankModel", "nextUse", "(IZ)I"⟩, 46)]
theorem lw_r3 : ∀ q ∈ lw_privs_3, lw_okq q := List.forall_mem_cons.mpr ⟨lw_p32, List.forall_mem_cons.mpr ⟨lw_p33, List.forall_mem_cons.mpr ⟨lw_p34, List.forall_mem_cons.mpr ⟨lw_p35, List.forall_mem_cons.mpr ⟨lw_p36, List.forall_mem_cons.mpr ⟨lw_p37, List.forall_mem_cons.mpr ⟨lw_p38, List.forall_mem_cons.mpr ⟨lw_p39, List.forall_mem_cons.mpr ⟨lw_p40, List.forall_mem_cons.mpr ⟨lw_p41, List.forall_mem_cons.mpr ⟨lw_p42, List.forall_mem_cons.mpr ⟨lw_p43, List.forall_mem_cons.mpr ⟨lw_p44, List.forall_mem_cons.mpr ⟨lw_p45, List.forall_mem_cons.mpr ⟨lw_p46, List.forall_mem_cons.mpr ⟨lw_p47, fun _ h => absurd h List.not_mem_nil⟩⟩⟩⟩⟩⟩⟩⟩⟩⟩⟩⟩⟩⟩⟩⟩
theorem lw_p48 : lw_okq (⟨"HowBigTankModel", "goMonth", "(IIZ)V"⟩, 46) := ⟨⟨by decide +kernel, by decide +kernel⟩, List.mem_of_getElem? (i := 816) (by decide +kernel), List.mem_of_getElem? (i := 1109) (by decide +kernel), List.mem_of_getElem? (i := 1110) (by decide +kernel)⟩
theorem lw_p49 : lw_okq (⟨"HowBigTankModel", "end", "(IIZ)V"⟩, 46) := ⟨⟨by decide +kernel, by decide +kernel⟩, List.mem_of_getElem? (i := 816) (by decide +kernel), List.mem_of_getElem? (i := 1113) (by decide +kernel), List.mem_of_getElem? (i := 1114) (by decide +kernel)⟩
theorem lw_p50 : lw_okq (⟨"HowBigTankModel", "isDry", "()Z"⟩, 46) := ⟨⟨by decide +kernel, by decide +kernel⟩, List.mem_of_getElem? (i := 816) (by decide +kernel), List.mem_of_getElem? (i := 1117) (by decide +kernel), List.mem_of_getElem? (i := 1118) (by decide +kernel)⟩
theorem lw_p51 : lw_okq (⟨"HowBigTankModel", "leastSize", "(I)I"⟩, 46) := ⟨⟨by decide +kernel, by decide +kernel⟩, List.mem_of_getElem? (i := 816) (by decide +kernel), List.mem_of_getElem? (i := 1129) (by decide +kernel), List.mem_of_getElem? (i := 1130) (by decide +kernel)⟩
theorem lw_p52 : lw_okq (⟨"HowBigTankModel", "goTrial", "(III)V"⟩, 46) := ⟨⟨by decide +kernel, by decide +kernel⟩, List.mem_of_getElem? (i := 816) (by decide +kernel), List.mem_of_getElem? (i := 1133) (by decide +kernel), List.mem_of_getElem? (i := 1134) (by decide +kernel)⟩
theorem lw_p53 : lw_okq (⟨"HowBigTankModel", "drawMonth", "(IIJZ)V"⟩, 46) := ⟨⟨by decide +kernel, by decide +kernel⟩, List.mem_of_getElem? (i := 816) (by decide +kernel), List.mem_of_getElem? (i := 1158) (by decide +kernel), List.mem_of_getElem? (i := 1159) (by decide +kernel)⟩
theorem lw_p54 : lw_okq (⟨"HowBigTankModel", "goDrawn", "(I)V"⟩, 46) := ⟨⟨by decide +kernel, by decide +kernel⟩, List.mem_of_getElem? (i := 816) (by decide +kernel), List.mem_of_getElem? (i := 1172) (by decide +kernel), List.mem_of_getElem? (i := 1173) (by decide +kernel)⟩
theorem lw_p55 : lw_okq (⟨"HowBigTankModel", "agrees", "(IIII)Z"⟩, 46) := ⟨⟨by decide +kernel, by decide +kernel⟩, List.mem_of_getElem? (i := 816) (by decide +kernel), List.mem_of_getElem? (i := 1193) (by decide +kernel), List.mem_of_getElem? (i := 1194) (by decide +kernel)⟩
theorem lw_p56 : lw_okq (⟨"HowBigTankModel", "countOf", "(I)I"⟩, 46) := ⟨⟨by decide +kernel, by decide +kernel⟩, List.mem_of_getElem? (i := 816) (by decide +kernel), List.mem_of_getElem? (i := 1209) (by decide +kernel), List.mem_of_getElem? (i := 1210) (by decide +kernel)⟩
theorem lw_p57 : lw_okq (⟨"HowBigTankModel", "say", "(J)V"⟩, 46) := ⟨⟨by decide +kernel, by decide +kernel⟩, List.mem_of_getElem? (i := 816) (by decide +kernel), List.mem_of_getElem? (i := 1218) (by decide +kernel), List.mem_of_getElem? (i := 1219) (by decide +kernel)⟩
def lw_privs_4 : List (MethodName × Nat) := [(⟨"HowBigTankModel", "goMonth", "(IIZ)V"⟩, 46), (⟨"HowBigTankModel", "end", "(IIZ)V"⟩, 46), (⟨"HowBigTankModel", "isDry", "()Z"⟩, 46), (⟨"HowBigTankModel", "leastSize", "(I)I"⟩, 46), (⟨"HowBigTankModel", "goTrial", "(III)V"⟩, 46), (⟨"HowBigTankModel", "drawMonth", "(IIJZ)V"⟩, 46), (⟨"HowBigTankModel", "goDrawn", "(I)V"⟩, 46), (⟨"HowBigTankModel", "agrees", "(IIII)Z"⟩, 46), (⟨"HowBigTankModel", "countOf", "(I)I"⟩, 46), (⟨"HowBigTankModel", "say", "(J)V"⟩, 46)]
theorem lw_r4 : ∀ q ∈ lw_privs_4, lw_okq q := List.forall_mem_cons.mpr ⟨lw_p48, List.forall_mem_cons.mpr ⟨lw_p49, List.forall_mem_cons.mpr ⟨lw_p50, List.forall_mem_cons.mpr ⟨lw_p51, List.forall_mem_cons.mpr ⟨lw_p52, List.forall_mem_cons.mpr ⟨lw_p53, List.forall_mem_cons.mpr ⟨lw_p54, List.forall_mem_cons.mpr ⟨lw_p55, List.forall_mem_cons.mpr ⟨lw_p56, List.forall_mem_cons.mpr ⟨lw_p57, fun _ h => absurd h List.not_mem_nil⟩⟩⟩⟩⟩⟩⟩⟩⟩⟩
def lw_privs : List (MethodName × Nat) := lw_privs_1 ++ (lw_privs_2 ++ (lw_privs_3 ++ (lw_privs_4)))
def lw_tbl : List Cond := k2_sels lw_privs ++ tables_1
theorem lw_privs_ok : ∀ q ∈ lw_privs, lw_okq q := by
  show ∀ q ∈ lw_privs_1 ++ (lw_privs_2 ++ (lw_privs_3 ++ (lw_privs_4))), lw_okq q
  exact List.forall_mem_append.mpr ⟨lw_r1, List.forall_mem_append.mpr ⟨lw_r2, List.forall_mem_append.mpr ⟨lw_r3, lw_r4⟩⟩⟩
-- ===== end of PART A; then your names; then what follows =====
/-! ===== BEGIN words of one list among another's, by their places ===== -/
theorem goodIn_r {big : List Cond} (ws : List Cond) (ps : List Nat) (hp : ws = ps.filterMap (fun i => big[i]?)) (h : ws.all goodWord = true) : GoodIn big ws := by
  intro w hw
  have h1 := List.all_eq_true.mp h w hw
  rw [hp] at hw
  obtain ⟨i, -, hi⟩ := List.mem_filterMap.mp hw
  have hm : w ∈ big := by first | exact List.mem_of_getElem? hi | exact List.getElem?_mem hi
  exact ⟨hm, good_of_word h1⟩
theorem goodIn_app {big a b : List Cond} (ha : GoodIn big a) (hb : GoodIn big b) : GoodIn big (a ++ b) := fun w h => (List.mem_append.mp h).elim (ha w) (hb w)
theorem goodIn_ca {big a b : List Cond} {c : Cond} (ha : GoodIn big (c :: a)) (hb : GoodIn big b) : GoodIn big (c :: (a ++ b)) := fun w h => (List.mem_cons.mp h).elim (fun e => ha w (List.mem_cons.mpr (Or.inl e))) (fun h => (List.mem_append.mp h).elim (fun h => ha w (List.mem_cons.mpr (Or.inr h))) (hb w))
theorem goodIn_sub {big ws : List Cond} (hm : ∀ w ∈ ws, w ∈ big) (h : ws.all goodWord = true) : GoodIn big ws := fun w hw => ⟨hm w hw, good_of_word (List.all_eq_true.mp h w hw)⟩
/-! ===== END ===== -/
def RX0 : String := "HowBigTank$Drawn"
def TX0 : u_T := fun k => match k with
  | 0 => ("HowBigTank$Drawn", "house", "LHowBigTank$House;", true)
  | 1 => ("HowBigTank$Drawn", "years", "LHowBigTank$Years;", true)
  | 2 => ("HowBigTank$Drawn", "tank", "LHowBigTank$Tank;", true)
  | 3 => ("HowBigTank$Drawn", "tried", "LHowBigTank$Rule;", true)
  | 4 => ("HowBigTank$Drawn", "endAt", "[[I", true)
  | 5 => ("HowBigTank$Drawn", "shortAt", "[[I", true)
  | 6 => ("HowBigTank$Drawn", "costAt", "[[I", true)
  | 7 => ("HowBigTank$Drawn", "atEnd", "[J", true)
  | _ => ("HowBigTank$Drawn", "behindLeak", "[J", true)
def tyX0 : Nat → FieldType := fun k => match k with
  | 0 => .object "HowBigTank$House"
  | 1 => .object "HowBigTank$Years"
  | 2 => .object "HowBigTank$Tank"
  | 3 => .object "HowBigTank$Rule"
  | 4 => .array (.array .int)
  | 5 => .array (.array .int)
  | 6 => .array (.array .int)
  | 7 => .array .long
  | _ => .array .long
theorem nmX0 : ∀ a, a < 9 → ∀ b, b < 9 → a ≠ b → (TX0 a).2.1 ≠ (TX0 b).2.1 := by decide +kernel
theorem tyX0_ok : ∀ k, k < 9 → parseFieldDescriptor (TX0 k).2.2.1 = some (tyX0 k) := by decide +kernel
abbrev cX0_init : ByteArray := prog_2_method_1_code
def yX0_init : MethodName := ⟨RX0, "<init>", "(LHowBigTank$House;LHowBigTank$Years;LHowBigTank$Tank;)V"⟩
abbrev cX0_waysNeverDry : ByteArray := prog_2_method_2_code
def yX0_waysNeverDry : MethodName := ⟨RX0, "waysNeverDry", "(LHowBigTank$Rule;)J"⟩
abbrev cX0_costOfAllWays : ByteArray := prog_2_method_3_code
def yX0_costOfAllWays : MethodName := ⟨RX0, "costOfAllWays", "(LHowBigTank$Rule;)J"⟩
abbrev cX0_bestHedge : ByteArray := prog_2_method_4_code
def yX0_bestHedge : MethodName := ⟨RX0, "bestHedge", "()I"⟩
abbrev cX0_layOut : ByteArray := prog_2_method_5_code
def yX0_layOut : MethodName := ⟨RX0, "layOut", "(LHowBigTank$Rule;II)V"⟩
abbrev cX0_layOutState : ByteArray := prog_2_method_6_code
def yX0_layOutState : MethodName := ⟨RX0, "layOutState", "(LHowBigTank$Rule;II)V"⟩
abbrev cX0_startFull : ByteArray := prog_2_method_7_code
def yX0_startFull : MethodName := ⟨RX0, "startFull", "()V"⟩
abbrev cX0_costAsLaidOut : ByteArray := prog_2_method_8_code
def yX0_costAsLaidOut : MethodName := ⟨RX0, "costAsLaidOut", "()J"⟩
abbrev cX0_letRain : ByteArray := prog_2_method_9_code
def yX0_letRain : MethodName := ⟨RX0, "letRain", "(I)V"⟩
abbrev cX0_draw : ByteArray := prog_2_method_10_code
def yX0_draw : MethodName := ⟨RX0, "draw", "(IZ)J"⟩
def RX1 : String := "HowBigTank$House"
def TX1 : u_T := fun k => match k with
  | 0 => ("HowBigTank$House", "numbers", "[I", true)
  | 1 => ("HowBigTank$House", "want", "[I", true)
  | 2 => ("HowBigTank$House", "hot", "[I", true)
  | 3 => ("HowBigTank$House", "worth", "[I", true)
  | 4 => ("HowBigTank$House", "byWorth", "[I", true)
  | 5 => ("HowBigTank$House", "comes", "[I", true)
  | _ => ("HowBigTank$House", "uses", "I", false)
def tyX1 : Nat → FieldType := fun k => match k with
  | 0 => .array .int
  | 1 => .array .int
  | 2 => .array .int
  | 3 => .array .int
  | 4 => .array .int
  | 5 => .array .int
  | _ => .int
theorem nmX1 : ∀ a, a < 7 → ∀ b, b < 7 → a ≠ b → (TX1 a).2.1 ≠ (TX1 b).2.1 := by decide +kernel
theorem tyX1_ok : ∀ k, k < 7 → parseFieldDescriptor (TX1 k).2.2.1 = some (tyX1 k) := by decide +kernel
abbrev cX1_init : ByteArray := prog_3_method_1_code
def yX1_init : MethodName := ⟨RX1, "<init>", "()V"⟩
abbrev cX1_takeOver : ByteArray := prog_3_method_2_code
def yX1_takeOver : MethodName := ⟨RX1, "takeOver", "(LHowBigTank$Page;)V"⟩
abbrev cX1_orderByWorth : ByteArray := prog_3_method_3_code
def yX1_orderByWorth : MethodName := ⟨RX1, "orderByWorth", "()V"⟩
abbrev cX1_settle : ByteArray := prog_3_method_4_code
def yX1_settle : MethodName := ⟨RX1, "settle", "()V"⟩
abbrev cX1_comesBy : ByteArray := prog_3_method_5_code
def yX1_comesBy : MethodName := ⟨RX1, "comesBy", "(IIZ)I"⟩
abbrev cX1_wantOf : ByteArray := prog_3_method_6_code
def yX1_wantOf : MethodName := ⟨RX1, "wantOf", "(II)I"⟩
abbrev cX1_mostPumped : ByteArray := prog_3_method_7_code
def yX1_mostPumped : MethodName := ⟨RX1, "mostPumped", "(I)I"⟩
abbrev cX1_useTold : ByteArray := prog_3_method_8_code
def yX1_useTold : MethodName := ⟨RX1, "useTold", "(II)I"⟩
abbrev cX1_digestOnto : ByteArray := prog_3_method_9_code
def yX1_digestOnto : MethodName := ⟨RX1, "digestOnto", "(J)J"⟩
def RX2 : String := "HowBigTank$Image"
def TX2 : u_T := fun k => match k with
  | 0 => ("HowBigTank$Image", "numbers", "[I", true)
  | 1 => ("HowBigTank$Image", "years", "LHowBigTank$Years;", true)
  | 2 => ("HowBigTank$Image", "readings", "[I", true)
  | _ => ("HowBigTank$Image", "ofHouse", "I", false)
def tyX2 : Nat → FieldType := fun k => match k with
  | 0 => .array .int
  | 1 => .object "HowBigTank$Years"
  | 2 => .array .int
  | _ => .int
theorem nmX2 : ∀ a, a < 4 → ∀ b, b < 4 → a ≠ b → (TX2 a).2.1 ≠ (TX2 b).2.1 := by decide +kernel
theorem tyX2_ok : ∀ k, k < 4 → parseFieldDescriptor (TX2 k).2.2.1 = some (tyX2 k) := by decide +kernel
abbrev cX2_init : ByteArray := prog_4_method_1_code
def yX2_init : MethodName := ⟨RX2, "<init>", "()V"⟩
def RX3 : String := "HowBigTank$Page"
def TX3 : u_T := fun k => match k with
  | 0 => ("HowBigTank$Page", "signs", "[I", true)
  | 1 => ("HowBigTank$Page", "found", "[I", true)
  | 2 => ("HowBigTank$Page", "length", "I", false)
  | 3 => ("HowBigTank$Page", "uses", "I", false)
  | 4 => ("HowBigTank$Page", "at", "I", false)
  | _ => ("HowBigTank$Page", "fits", "Z", false)
def tyX3 : Nat → FieldType := fun k => match k with
  | 0 => .array .int
  | 1 => .array .int
  | 2 => .int
  | 3 => .int
  | 4 => .int
  | _ => .boolean
theorem nmX3 : ∀ a, a < 6 → ∀ b, b < 6 → a ≠ b → (TX3 a).2.1 ≠ (TX3 b).2.1 := by decide +kernel
theorem tyX3_ok : ∀ k, k < 6 → parseFieldDescriptor (TX3 k).2.2.1 = some (tyX3 k) := by decide +kernel
abbrev cX3_init : ByteArray := prog_5_method_1_code
def yX3_init : MethodName := ⟨RX3, "<init>", "()V"⟩
abbrev cX3_lettersIn : ByteArray := prog_5_method_2_code
def yX3_lettersIn : MethodName := ⟨RX3, "lettersIn", "(J)I"⟩
abbrev cX3_append : ByteArray := prog_5_method_3_code
def yX3_append : MethodName := ⟨RX3, "append", "(JI)V"⟩
abbrev cX3_isText : ByteArray := prog_5_method_4_code
def yX3_isText : MethodName := ⟨RX3, "isText", "(I)Z"⟩
abbrev cX3_takeHouse : ByteArray := prog_5_method_5_code
def yX3_takeHouse : MethodName := ⟨RX3, "takeHouse", "()V"⟩
abbrev cX3_takeNamed : ByteArray := prog_5_method_6_code
def yX3_takeNamed : MethodName := ⟨RX3, "takeNamed", "(III)V"⟩
abbrev cX3_takeUse : ByteArray := prog_5_method_7_code
def yX3_takeUse : MethodName := ⟨RX3, "takeUse", "(I)V"⟩
abbrev cX3_takeYear : ByteArray := prog_5_method_8_code
def yX3_takeYear : MethodName := ⟨RX3, "takeYear", "()V"⟩
abbrev cX3_takeRule : ByteArray := prog_5_method_9_code
def yX3_takeRule : MethodName := ⟨RX3, "takeRule", "()V"⟩
abbrev cX3_sees : ByteArray := prog_5_method_10_code
def yX3_sees : MethodName := ⟨RX3, "sees", "(I)Z"⟩
abbrev cX3_takeSign : ByteArray := prog_5_method_11_code
def yX3_takeSign : MethodName := ⟨RX3, "takeSign", "(I)V"⟩
abbrev cX3_digitAhead : ByteArray := prog_5_method_12_code
def yX3_digitAhead : MethodName := ⟨RX3, "digitAhead", "()I"⟩
abbrev cX3_takeNumber : ByteArray := prog_5_method_13_code
def yX3_takeNumber : MethodName := ⟨RX3, "takeNumber", "(II)I"⟩
def RX4 : String := "HowBigTank$Rule"
def TX4 : u_T := fun k => match k with
  | 0 => ("HowBigTank$Rule", "most", "[I", true)
  | 1 => ("HowBigTank$Rule", "kind", "I", false)
  | 2 => ("HowBigTank$Rule", "n", "I", false)
  | 3 => ("HowBigTank$Rule", "sureVersion", "I", false)
  | 4 => ("HowBigTank$Rule", "meanVersion", "I", false)
  | 5 => ("HowBigTank$Rule", "waysNeverDry", "J", false)
  | _ => ("HowBigTank$Rule", "costOfAllWays", "J", false)
def tyX4 : Nat → FieldType := fun k => match k with
  | 0 => .array .int
  | 1 => .int
  | 2 => .int
  | 3 => .int
  | 4 => .int
  | 5 => .long
  | _ => .long
theorem nmX4 : ∀ a, a < 7 → ∀ b, b < 7 → a ≠ b → (TX4 a).2.1 ≠ (TX4 b).2.1 := by decide +kernel
theorem tyX4_ok : ∀ k, k < 7 → parseFieldDescriptor (TX4 k).2.2.1 = some (tyX4 k) := by decide +kernel
abbrev cX4_init : ByteArray := prog_6_method_1_code
def yX4_init : MethodName := ⟨RX4, "<init>", "()V"⟩
abbrev cX4_isA : ByteArray := prog_6_method_2_code
def yX4_isA : MethodName := ⟨RX4, "isA", "(I)Z"⟩
abbrev cX4_goesByWorth : ByteArray := prog_6_method_3_code
def yX4_goesByWorth : MethodName := ⟨RX4, "goesByWorth", "()Z"⟩
def RX5 : String := "HowBigTank$Run"
def TX5 : u_T := fun k => match k with
  | 0 => ("HowBigTank$Run", "house", "LHowBigTank$House;", true)
  | 1 => ("HowBigTank$Run", "years", "LHowBigTank$Years;", true)
  | 2 => ("HowBigTank$Run", "tank", "LHowBigTank$Tank;", true)
  | 3 => ("HowBigTank$Run", "sums", "[I", true)
  | 4 => ("HowBigTank$Run", "shortOf", "[I", true)
  | 5 => ("HowBigTank$Run", "firstDry", "I", false)
  | 6 => ("HowBigTank$Run", "bestSize", "I", false)
  | 7 => ("HowBigTank$Run", "bestMore", "I", false)
  | _ => ("HowBigTank$Run", "bestTotal", "I", false)
def tyX5 : Nat → FieldType := fun k => match k with
  | 0 => .object "HowBigTank$House"
  | 1 => .object "HowBigTank$Years"
  | 2 => .object "HowBigTank$Tank"
  | 3 => .array .int
  | 4 => .array .int
  | 5 => .int
  | 6 => .int
  | 7 => .int
  | _ => .int
theorem nmX5 : ∀ a, a < 9 → ∀ b, b < 9 → a ≠ b → (TX5 a).2.1 ≠ (TX5 b).2.1 := by decide +kernel
theorem tyX5_ok : ∀ k, k < 9 → parseFieldDescriptor (TX5 k).2.2.1 = some (tyX5 k) := by decide +kernel
abbrev cX5_init : ByteArray := prog_7_method_1_code
def yX5_init : MethodName := ⟨RX5, "<init>", "(LHowBigTank$House;LHowBigTank$Years;LHowBigTank$Tank;)V"⟩
abbrev cX5_passAll : ByteArray := prog_7_method_2_code
def yX5_passAll : MethodName := ⟨RX5, "passAll", "(LHowBigTank$Rule;II)V"⟩
abbrev cX5_addMonth : ByteArray := prog_7_method_3_code
def yX5_addMonth : MethodName := ⟨RX5, "addMonth", "(I)V"⟩
abbrev cX5_passUpTo : ByteArray := prog_7_method_4_code
def yX5_passUpTo : MethodName := ⟨RX5, "passUpTo", "(LHowBigTank$Rule;II)V"⟩
abbrev cX5_leastSize : ByteArray := prog_7_method_5_code
def yX5_leastSize : MethodName := ⟨RX5, "leastSize", "(LHowBigTank$Rule;I)I"⟩
abbrev cX5_search : ByteArray := prog_7_method_6_code
def yX5_search : MethodName := ⟨RX5, "search", "(LHowBigTank$Rule;III)V"⟩
abbrev cX5_costBelow : ByteArray := prog_7_method_7_code
def yX5_costBelow : MethodName := ⟨RX5, "costBelow", "(LHowBigTank$Rule;III)I"⟩
def RX6 : String := "HowBigTank$Tank"
def TX6 : u_T := fun k => match k with
  | 0 => ("HowBigTank$Tank", "house", "LHowBigTank$House;", true)
  | 1 => ("HowBigTank$Tank", "wisdom", "LHowBigTank$Wisdom;", true)
  | 2 => ("HowBigTank$Tank", "shortOf", "[I", true)
  | 3 => ("HowBigTank$Tank", "area", "I", false)
  | 4 => ("HowBigTank$Tank", "size", "I", false)
  | 5 => ("HowBigTank$Tank", "leak", "I", false)
  | 6 => ("HowBigTank$Tank", "level", "I", false)
  | 7 => ("HowBigTank$Tank", "rained", "Z", false)
  | 8 => ("HowBigTank$Tank", "came", "I", false)
  | 9 => ("HowBigTank$Tank", "ranOver", "I", false)
  | 10 => ("HowBigTank$Tank", "leaked", "I", false)
  | 11 => ("HowBigTank$Tank", "pumped", "I", false)
  | 12 => ("HowBigTank$Tank", "given", "I", false)
  | 13 => ("HowBigTank$Tank", "lacking", "I", false)
  | _ => ("HowBigTank$Tank", "cost", "I", false)
def tyX6 : Nat → FieldType := fun k => match k with
  | 0 => .object "HowBigTank$House"
  | 1 => .object "HowBigTank$Wisdom"
  | 2 => .array .int
  | 3 => .int
  | 4 => .int
  | 5 => .int
  | 6 => .int
  | 7 => .boolean
  | 8 => .int
  | 9 => .int
  | 10 => .int
  | 11 => .int
  | 12 => .int
  | 13 => .int
  | _ => .int
theorem nmX6 : ∀ a, a < 15 → ∀ b, b < 15 → a ≠ b → (TX6 a).2.1 ≠ (TX6 b).2.1 := by decide +kernel
theorem tyX6_ok : ∀ k, k < 15 → parseFieldDescriptor (TX6 k).2.2.1 = some (tyX6 k) := by decide +kernel
abbrev cX6_init : ByteArray := prog_8_method_1_code
def yX6_init : MethodName := ⟨RX6, "<init>", "(LHowBigTank$House;LHowBigTank$Wisdom;)V"⟩
abbrev cX6_startFull : ByteArray := prog_8_method_2_code
def yX6_startFull : MethodName := ⟨RX6, "startFull", "(II)V"⟩
abbrev cX6_pass : ByteArray := prog_8_method_3_code
def yX6_pass : MethodName := ⟨RX6, "pass", "(LHowBigTank$Rule;II)V"⟩
abbrev cX6_pumpAndDraw : ByteArray := prog_8_method_4_code
def yX6_pumpAndDraw : MethodName := ⟨RX6, "pumpAndDraw", "(LHowBigTank$Rule;I)V"⟩
abbrev cX6_choosePumpedAndGiven : ByteArray := prog_8_method_5_code
def yX6_choosePumpedAndGiven : MethodName := ⟨RX6, "choosePumpedAndGiven", "(LHowBigTank$Rule;I)I"⟩
abbrev cX6_told : ByteArray := prog_8_method_6_code
def yX6_told : MethodName := ⟨RX6, "told", "(I)I"⟩
abbrev cX6_agrees : ByteArray := prog_8_method_7_code
def yX6_agrees : MethodName := ⟨RX6, "agrees", "(LHowBigTank$Rule;[I[III)Z"⟩
def RX7 : String := "HowBigTank$Wisdom"
def TX7 : u_T := fun k => match k with
  | 0 => ("HowBigTank$Wisdom", "house", "LHowBigTank$House;", true)
  | 1 => ("HowBigTank$Wisdom", "years", "LHowBigTank$Years;", true)
  | 2 => ("HowBigTank$Wisdom", "pumps", "[[I", true)
  | 3 => ("HowBigTank$Wisdom", "gives", "[[I", true)
  | 4 => ("HowBigTank$Wisdom", "atEnd", "[J", true)
  | 5 => ("HowBigTank$Wisdom", "behindLeak", "[J", true)
  | 6 => ("HowBigTank$Wisdom", "costAhead", "[J", true)
  | 7 => ("HowBigTank$Wisdom", "givenAhead", "[I", true)
  | 8 => ("HowBigTank$Wisdom", "costOfGiven", "[J", true)
  | 9 => ("HowBigTank$Wisdom", "wanted", "I", false)
  | _ => ("HowBigTank$Wisdom", "version", "I", false)
def tyX7 : Nat → FieldType := fun k => match k with
  | 0 => .object "HowBigTank$House"
  | 1 => .object "HowBigTank$Years"
  | 2 => .array (.array .int)
  | 3 => .array (.array .int)
  | 4 => .array .long
  | 5 => .array .long
  | 6 => .array .long
  | 7 => .array .int
  | 8 => .array .long
  | 9 => .int
  | _ => .int
theorem nmX7 : ∀ a, a < 11 → ∀ b, b < 11 → a ≠ b → (TX7 a).2.1 ≠ (TX7 b).2.1 := by decide +kernel
theorem tyX7_ok : ∀ k, k < 11 → parseFieldDescriptor (TX7 k).2.2.1 = some (tyX7 k) := by decide +kernel
abbrev cX7_init : ByteArray := prog_9_method_1_code
def yX7_init : MethodName := ⟨RX7, "<init>", "(LHowBigTank$House;LHowBigTank$Years;)V"⟩
abbrev cX7_bringUpTo : ByteArray := prog_9_method_2_code
def yX7_bringUpTo : MethodName := ⟨RX7, "bringUpTo", "(I)V"⟩
abbrev cX7_weighGiven : ByteArray := prog_9_method_3_code
def yX7_weighGiven : MethodName := ⟨RX7, "weighGiven", "(IJ)V"⟩
abbrev cX7_chooseGiven : ByteArray := prog_9_method_4_code
def yX7_chooseGiven : MethodName := ⟨RX7, "chooseGiven", "(I)V"⟩
abbrev cX7_choosePumped : ByteArray := prog_9_method_5_code
def yX7_choosePumped : MethodName := ⟨RX7, "choosePumped", "(IIJ)V"⟩
abbrev cX7_lookBack : ByteArray := prog_9_method_6_code
def yX7_lookBack : MethodName := ⟨RX7, "lookBack", "(I)V"⟩
def RX8 : String := "HowBigTank$Years"
def TX8 : u_T := fun k => match k with
  | 0 => ("HowBigTank$Years", "rains", "[[I", true)
  | _ => ("HowBigTank$Years", "count", "I", false)
def tyX8 : Nat → FieldType := fun k => match k with
  | 0 => .array (.array .int)
  | _ => .int
theorem nmX8 : ∀ a, a < 2 → ∀ b, b < 2 → a ≠ b → (TX8 a).2.1 ≠ (TX8 b).2.1 := by decide +kernel
theorem tyX8_ok : ∀ k, k < 2 → parseFieldDescriptor (TX8 k).2.2.1 = some (tyX8 k) := by decide +kernel
abbrev cX8_init : ByteArray := prog_10_method_1_code
def yX8_init : MethodName := ⟨RX8, "<init>", "()V"⟩
abbrev cX8_copyFrom : ByteArray := prog_10_method_2_code
def yX8_copyFrom : MethodName := ⟨RX8, "copyFrom", "(LHowBigTank$Years;)V"⟩
def RX9 : String := "HowBigTank"
def TX9 : u_T := fun k => match k with
  | 0 => ("HowBigTank", "page", "LHowBigTank$Page;", true)
  | 1 => ("HowBigTank", "house", "LHowBigTank$House;", true)
  | 2 => ("HowBigTank", "years", "LHowBigTank$Years;", true)
  | 3 => ("HowBigTank", "rules", "[LHowBigTank$Rule;", true)
  | 4 => ("HowBigTank", "readings", "[I", true)
  | 5 => ("HowBigTank", "image", "LHowBigTank$Image;", true)
  | 6 => ("HowBigTank", "wisdom", "LHowBigTank$Wisdom;", true)
  | 7 => ("HowBigTank", "tank", "LHowBigTank$Tank;", true)
  | 8 => ("HowBigTank", "course", "LHowBigTank$Run;", true)
  | 9 => ("HowBigTank", "drawn", "LHowBigTank$Drawn;", true)
  | 10 => ("HowBigTank", "plainAll", "LHowBigTank$Rule;", true)
  | 11 => ("HowBigTank", "ruleCount", "I", false)
  | 12 => ("HowBigTank", "housesRead", "I", false)
  | 13 => ("HowBigTank", "searchesDone", "I", false)
  | 14 => ("HowBigTank", "hedgesDone", "I", false)
  | _ => ("HowBigTank", "version", "I", false)
def tyX9 : Nat → FieldType := fun k => match k with
  | 0 => .object "HowBigTank$Page"
  | 1 => .object "HowBigTank$House"
  | 2 => .object "HowBigTank$Years"
  | 3 => .array (.object "HowBigTank$Rule")
  | 4 => .array .int
  | 5 => .object "HowBigTank$Image"
  | 6 => .object "HowBigTank$Wisdom"
  | 7 => .object "HowBigTank$Tank"
  | 8 => .object "HowBigTank$Run"
  | 9 => .object "HowBigTank$Drawn"
  | 10 => .object "HowBigTank$Rule"
  | 11 => .int
  | 12 => .int
  | 13 => .int
  | 14 => .int
  | _ => .int
theorem nmX9 : ∀ a, a < 16 → ∀ b, b < 16 → a ≠ b → (TX9 a).2.1 ≠ (TX9 b).2.1 := by decide +kernel
theorem tyX9_ok : ∀ k, k < 16 → parseFieldDescriptor (TX9 k).2.2.1 = some (tyX9 k) := by decide +kernel
abbrev cX9_init : ByteArray := prog_1_method_1_code
def yX9_init : MethodName := ⟨RX9, "<init>", "()V"⟩
abbrev cX9_letters : ByteArray := prog_1_method_2_code
def yX9_letters : MethodName := ⟨RX9, "letters", "(J)I"⟩
abbrev cX9_blank : ByteArray := prog_1_method_3_code
def yX9_blank : MethodName := ⟨RX9, "blank", "()I"⟩
abbrev cX9_fault : ByteArray := prog_1_method_4_code
def yX9_fault : MethodName := ⟨RX9, "fault", "(I)I"⟩
abbrev cX9_house : ByteArray := prog_1_method_5_code
def yX9_house : MethodName := ⟨RX9, "house", "()I"⟩
abbrev cX9_year : ByteArray := prog_1_method_6_code
def yX9_year : MethodName := ⟨RX9, "year", "()I"⟩
abbrev cX9_tell : ByteArray := prog_1_method_7_code
def yX9_tell : MethodName := ⟨RX9, "tell", "()I"⟩
abbrev cX9_rule : ByteArray := prog_1_method_8_code
def yX9_rule : MethodName := ⟨RX9, "rule", "(II)I"⟩
abbrev cX9_as : ByteArray := prog_1_method_9_code
def yX9_as : MethodName := ⟨RX9, "as", "(II)I"⟩
abbrev cX9_houseTold : ByteArray := prog_1_method_10_code
def yX9_houseTold : MethodName := ⟨RX9, "houseTold", "(I)I"⟩
abbrev cX9_change : ByteArray := prog_1_method_11_code
def yX9_change : MethodName := ⟨RX9, "change", "(II)I"⟩
abbrev cX9_rain : ByteArray := prog_1_method_12_code
def yX9_rain : MethodName := ⟨RX9, "rain", "(II)I"⟩
abbrev cX9_run : ByteArray := prog_1_method_13_code
def yX9_run : MethodName := ⟨RX9, "run", "(II)I"⟩
abbrev cX9_month : ByteArray := prog_1_method_14_code
def yX9_month : MethodName := ⟨RX9, "month", "(IIII)I"⟩
abbrev cX9_never : ByteArray := prog_1_method_15_code
def yX9_never : MethodName := ⟨RX9, "never", "(I)I"⟩
abbrev cX9_let : ByteArray := prog_1_method_16_code
def yX9_let : MethodName := ⟨RX9, "let", "(I)I"⟩
abbrev cX9_cheapest : ByteArray := prog_1_method_17_code
def yX9_cheapest : MethodName := ⟨RX9, "cheapest", "(III)I"⟩
abbrev cX9_share : ByteArray := prog_1_method_18_code
def yX9_share : MethodName := ⟨RX9, "share", "(III)I"⟩
abbrev cX9_sure : ByteArray := prog_1_method_19_code
def yX9_sure : MethodName := ⟨RX9, "sure", "(II)J"⟩
abbrev cX9_mean : ByteArray := prog_1_method_20_code
def yX9_mean : MethodName := ⟨RX9, "mean", "(II)J"⟩
abbrev cX9_wise : ByteArray := prog_1_method_21_code
def yX9_wise : MethodName := ⟨RX9, "wise", "(IIZI)I"⟩
abbrev cX9_hedge : ByteArray := prog_1_method_22_code
def yX9_hedge : MethodName := ⟨RX9, "hedge", "()I"⟩
abbrev cX9_read : ByteArray := prog_1_method_23_code
def yX9_read : MethodName := ⟨RX9, "read", "(II)I"⟩
abbrev cX9_leaks : ByteArray := prog_1_method_24_code
def yX9_leaks : MethodName := ⟨RX9, "leaks", "(III)I"⟩
abbrev cX9_image : ByteArray := prog_1_method_25_code
def yX9_image : MethodName := ⟨RX9, "image", "()I"⟩
abbrev cX9_restore : ByteArray := prog_1_method_26_code
def yX9_restore : MethodName := ⟨RX9, "restore", "()I"⟩
abbrev cX9_count : ByteArray := prog_1_method_27_code
def yX9_count : MethodName := ⟨RX9, "count", "(I)I"⟩
abbrev cX9_digest : ByteArray := prog_1_method_28_code
def yX9_digest : MethodName := ⟨RX9, "digest", "()J"⟩
abbrev cX9_digestRow : ByteArray := prog_1_method_29_code
def yX9_digestRow : MethodName := ⟨RX9, "digestRow", "(J[II)J"⟩
abbrev cX9_stateOf : ByteArray := prog_1_method_30_code
def yX9_stateOf : MethodName := ⟨RX9, "stateOf", "(IZ)I"⟩
abbrev cX9_stateBehindLeak : ByteArray := prog_1_method_31_code
def yX9_stateBehindLeak : MethodName := ⟨RX9, "stateBehindLeak", "(LHowBigTank$House;II)I"⟩
abbrev cX9_isNoMonth : ByteArray := prog_1_method_32_code
def yX9_isNoMonth : MethodName := ⟨RX9, "isNoMonth", "(I)Z"⟩
abbrev cX9_isNoPrice : ByteArray := prog_1_method_33_code
def yX9_isNoPrice : MethodName := ⟨RX9, "isNoPrice", "(I)Z"⟩
abbrev cX9_isNoRule : ByteArray := prog_1_method_34_code
def yX9_isNoRule : MethodName := ⟨RX9, "isNoRule", "(I)Z"⟩
abbrev cX9_isNoYear : ByteArray := prog_1_method_35_code
def yX9_isNoYear : MethodName := ⟨RX9, "isNoYear", "(I)Z"⟩
abbrev cX9_lacksHouseOrYear : ByteArray := prog_1_method_36_code
def yX9_lacksHouseOrYear : MethodName := ⟨RX9, "lacksHouseOrYear", "()Z"⟩
abbrev cX9_readingsKept : ByteArray := prog_1_method_37_code
def yX9_readingsKept : MethodName := ⟨RX9, "readingsKept", "()I"⟩
abbrev cX9_makeWise : ByteArray := prog_1_method_38_code
def yX9_makeWise : MethodName := ⟨RX9, "makeWise", "(LHowBigTank$Rule;)V"⟩
abbrev cX9_passAllYears : ByteArray := prog_1_method_39_code
def yX9_passAllYears : MethodName := ⟨RX9, "passAllYears", "(LHowBigTank$Rule;)V"⟩
abbrev cX9_inLowestTerms : ByteArray := prog_1_method_40_code
def yX9_inLowestTerms : MethodName := ⟨RX9, "inLowestTerms", "(JI)J"⟩
def RX10 : String := "HowBigTankModel"
def TX10 : u_T := fun k => match k with
  | 0 => ("HowBigTankModel", "page", "[I", true)
  | 1 => ("HowBigTankModel", "pageMany", "I", false)
  | 2 => ("HowBigTankModel", "readHouse", "[I", true)
  | 3 => ("HowBigTankModel", "readNumbers", "[I", true)
  | 4 => ("HowBigTankModel", "readUses", "I", false)
  | 5 => ("HowBigTankModel", "due", "I", false)
  | 6 => ("HowBigTankModel", "hasBegun", "Z", false)
  | 7 => ("HowBigTankModel", "readMany", "I", false)
  | 8 => ("HowBigTankModel", "house", "[I", true)
  | 9 => ("HowBigTankModel", "uses", "I", false)
  | 10 => ("HowBigTankModel", "housesRead", "I", false)
  | 11 => ("HowBigTankModel", "years", "I", false)
  | 12 => ("HowBigTankModel", "rains", "[I", true)
  | 13 => ("HowBigTankModel", "rules", "I", false)
  | 14 => ("HowBigTankModel", "kinds", "[I", true)
  | 15 => ("HowBigTankModel", "numbers", "[I", true)
  | 16 => ("HowBigTankModel", "caps", "[I", true)
  | 17 => ("HowBigTankModel", "comes", "I", false)
  | 18 => ("HowBigTankModel", "over", "I", false)
  | 19 => ("HowBigTankModel", "leaked", "I", false)
  | 20 => ("HowBigTankModel", "pumped", "I", false)
  | 21 => ("HowBigTankModel", "given", "I", false)
  | 22 => ("HowBigTankModel", "level", "I", false)
  | 23 => ("HowBigTankModel", "cost", "I", false)
  | 24 => ("HowBigTankModel", "shorts", "[I", true)
  | 25 => ("HowBigTankModel", "costs", "[J", true)
  | 26 => ("HowBigTankModel", "bestPump", "[I", true)
  | 27 => ("HowBigTankModel", "bestGive", "[I", true)
  | 28 => ("HowBigTankModel", "then", "[J", true)
  | 29 => ("HowBigTankModel", "sums", "[I", true)
  | 30 => ("HowBigTankModel", "useShorts", "[I", true)
  | 31 => ("HowBigTankModel", "firstDry", "I", false)
  | 32 => ("HowBigTankModel", "done", "I", false)
  | 33 => ("HowBigTankModel", "counts", "[J", true)
  | 34 => ("HowBigTankModel", "next", "[J", true)
  | 35 => ("HowBigTankModel", "sureWays", "J", false)
  | 36 => ("HowBigTankModel", "meanSum", "J", false)
  | 37 => ("HowBigTankModel", "allWays", "J", false)
  | 38 => ("HowBigTankModel", "hedgesDone", "I", false)
  | 39 => ("HowBigTankModel", "readings", "[I", true)
  | 40 => ("HowBigTankModel", "keptNumbers", "[I", true)
  | 41 => ("HowBigTankModel", "keptRains", "[I", true)
  | 42 => ("HowBigTankModel", "keptReadings", "[I", true)
  | 43 => ("HowBigTankModel", "keptYears", "I", false)
  | 44 => ("HowBigTankModel", "keptHouse", "I", false)
  | _ => ("HowBigTankModel", "hash", "J", false)
def tyX10 : Nat → FieldType := fun k => match k with
  | 0 => .array .int
  | 1 => .int
  | 2 => .array .int
  | 3 => .array .int
  | 4 => .int
  | 5 => .int
  | 6 => .boolean
  | 7 => .int
  | 8 => .array .int
  | 9 => .int
  | 10 => .int
  | 11 => .int
  | 12 => .array .int
  | 13 => .int
  | 14 => .array .int
  | 15 => .array .int
  | 16 => .array .int
  | 17 => .int
  | 18 => .int
  | 19 => .int
  | 20 => .int
  | 21 => .int
  | 22 => .int
  | 23 => .int
  | 24 => .array .int
  | 25 => .array .long
  | 26 => .array .int
  | 27 => .array .int
  | 28 => .array .long
  | 29 => .array .int
  | 30 => .array .int
  | 31 => .int
  | 32 => .int
  | 33 => .array .long
  | 34 => .array .long
  | 35 => .long
  | 36 => .long
  | 37 => .long
  | 38 => .int
  | 39 => .array .int
  | 40 => .array .int
  | 41 => .array .int
  | 42 => .array .int
  | 43 => .int
  | 44 => .int
  | _ => .long
theorem nmX10 : ∀ a, a < 46 → ∀ b, b < 46 → a ≠ b → (TX10 a).2.1 ≠ (TX10 b).2.1 := by decide +kernel
theorem tyX10_ok : ∀ k, k < 46 → parseFieldDescriptor (TX10 k).2.2.1 = some (tyX10 k) := by decide +kernel
abbrev cX10_init : ByteArray := prog_12_method_1_code
def yX10_init : MethodName := ⟨RX10, "<init>", "()V"⟩
abbrev cX10_in : ByteArray := prog_12_method_2_code
def yX10_in : MethodName := ⟨RX10, "in", "(JJJ)Z"⟩
abbrev cX10_letters : ByteArray := prog_12_method_3_code
def yX10_letters : MethodName := ⟨RX10, "letters", "(J)I"⟩
abbrev cX10_blank : ByteArray := prog_12_method_4_code
def yX10_blank : MethodName := ⟨RX10, "blank", "()I"⟩
abbrev cX10_lowest : ByteArray := prog_12_method_5_code
def yX10_lowest : MethodName := ⟨RX10, "lowest", "(I)I"⟩
abbrev cX10_highest : ByteArray := prog_12_method_6_code
def yX10_highest : MethodName := ⟨RX10, "highest", "(I)I"⟩
abbrev cX10_placeOf : ByteArray := prog_12_method_7_code
def yX10_placeOf : MethodName := ⟨RX10, "placeOf", "(I)I"⟩
abbrev cX10_goNumber : ByteArray := prog_12_method_8_code
def yX10_goNumber : MethodName := ⟨RX10, "goNumber", "(I)Z"⟩
abbrev cX10_behind : ByteArray := prog_12_method_9_code
def yX10_behind : MethodName := ⟨RX10, "behind", "(II)I"⟩
abbrev cX10_goHouse : ByteArray := prog_12_method_10_code
def yX10_goHouse : MethodName := ⟨RX10, "goHouse", "(I)Z"⟩
abbrev cX10_goYear : ByteArray := prog_12_method_11_code
def yX10_goYear : MethodName := ⟨RX10, "goYear", "(I)Z"⟩
abbrev cX10_goTold : ByteArray := prog_12_method_12_code
def yX10_goTold : MethodName := ⟨RX10, "goTold", "(I)Z"⟩
abbrev cX10_faultOf : ByteArray := prog_12_method_13_code
def yX10_faultOf : MethodName := ⟨RX10, "faultOf", "(I)I"⟩
abbrev cX10_fault : ByteArray := prog_12_method_14_code
def yX10_fault : MethodName := ⟨RX10, "fault", "(I)I"⟩
abbrev cX10_house : ByteArray := prog_12_method_15_code
def yX10_house : MethodName := ⟨RX10, "house", "()I"⟩
abbrev cX10_year : ByteArray := prog_12_method_16_code
def yX10_year : MethodName := ⟨RX10, "year", "()I"⟩
abbrev cX10_tell : ByteArray := prog_12_method_17_code
def yX10_tell : MethodName := ⟨RX10, "tell", "()I"⟩
abbrev cX10_rule : ByteArray := prog_12_method_18_code
def yX10_rule : MethodName := ⟨RX10, "rule", "(II)I"⟩
abbrev cX10_isRule : ByteArray := prog_12_method_19_code
def yX10_isRule : MethodName := ⟨RX10, "isRule", "(I)Z"⟩
abbrev cX10_as : ByteArray := prog_12_method_20_code
def yX10_as : MethodName := ⟨RX10, "as", "(II)I"⟩
abbrev cX10_want : ByteArray := prog_12_method_21_code
def yX10_want : MethodName := ⟨RX10, "want", "(II)I"⟩
abbrev cX10_houseTold : ByteArray := prog_12_method_22_code
def yX10_houseTold : MethodName := ⟨RX10, "houseTold", "(I)I"⟩
abbrev cX10_change : ByteArray := prog_12_method_23_code
def yX10_change : MethodName := ⟨RX10, "change", "(II)I"⟩
abbrev cX10_rain : ByteArray := prog_12_method_24_code
def yX10_rain : MethodName := ⟨RX10, "rain", "(II)I"⟩
abbrev cX10_begin : ByteArray := prog_12_method_25_code
def yX10_begin : MethodName := ⟨RX10, "begin", "(IIZI)V"⟩
abbrev cX10_mostPumped : ByteArray := prog_12_method_26_code
def yX10_mostPumped : MethodName := ⟨RX10, "mostPumped", "(II)I"⟩
abbrev cX10_nextUse : ByteArray := prog_12_method_27_code
def yX10_nextUse : MethodName := ⟨RX10, "nextUse", "(IZ)I"⟩
abbrev cX10_give : ByteArray := prog_12_method_28_code
def yX10_give : MethodName := ⟨RX10, "give", "(IIZZ)V"⟩
abbrev cX10_isDry : ByteArray := prog_12_method_29_code
def yX10_isDry : MethodName := ⟨RX10, "isDry", "()Z"⟩
abbrev cX10_end : ByteArray := prog_12_method_30_code
def yX10_end : MethodName := ⟨RX10, "end", "(IIZ)V"⟩
abbrev cX10_stateAt : ByteArray := prog_12_method_31_code
def yX10_stateAt : MethodName := ⟨RX10, "stateAt", "(IIZ)I"⟩
abbrev cX10_layThen : ByteArray := prog_12_method_32_code
def yX10_layThen : MethodName := ⟨RX10, "layThen", "(I)V"⟩
abbrev cX10_allWants : ByteArray := prog_12_method_33_code
def yX10_allWants : MethodName := ⟨RX10, "allWants", "(I)I"⟩
abbrev cX10_layWise : ByteArray := prog_12_method_34_code
def yX10_layWise : MethodName := ⟨RX10, "layWise", "()V"⟩
abbrev cX10_chooseWise : ByteArray := prog_12_method_35_code
def yX10_chooseWise : MethodName := ⟨RX10, "chooseWise", "(IIIJ)V"⟩
abbrev cX10_goRun : ByteArray := prog_12_method_36_code
def yX10_goRun : MethodName := ⟨RX10, "goRun", "(I)V"⟩
abbrev cX10_goMonth : ByteArray := prog_12_method_37_code
def yX10_goMonth : MethodName := ⟨RX10, "goMonth", "(IIZ)V"⟩
abbrev cX10_lacks : ByteArray := prog_12_method_38_code
def yX10_lacks : MethodName := ⟨RX10, "lacks", "()Z"⟩
abbrev cX10_run : ByteArray := prog_12_method_39_code
def yX10_run : MethodName := ⟨RX10, "run", "(II)I"⟩
abbrev cX10_month : ByteArray := prog_12_method_40_code
def yX10_month : MethodName := ⟨RX10, "month", "(IIII)I"⟩
abbrev cX10_goTrial : ByteArray := prog_12_method_41_code
def yX10_goTrial : MethodName := ⟨RX10, "goTrial", "(III)V"⟩
abbrev cX10_leastSize : ByteArray := prog_12_method_42_code
def yX10_leastSize : MethodName := ⟨RX10, "leastSize", "(I)I"⟩
abbrev cX10_never : ByteArray := prog_12_method_43_code
def yX10_never : MethodName := ⟨RX10, "never", "(I)I"⟩
abbrev cX10_let : ByteArray := prog_12_method_44_code
def yX10_let : MethodName := ⟨RX10, "let", "(I)I"⟩
abbrev cX10_cheapest : ByteArray := prog_12_method_45_code
def yX10_cheapest : MethodName := ⟨RX10, "cheapest", "(III)I"⟩
abbrev cX10_share : ByteArray := prog_12_method_46_code
def yX10_share : MethodName := ⟨RX10, "share", "(III)I"⟩
abbrev cX10_goDrawn : ByteArray := prog_12_method_47_code
def yX10_goDrawn : MethodName := ⟨RX10, "goDrawn", "(I)V"⟩
abbrev cX10_drawMonth : ByteArray := prog_12_method_48_code
def yX10_drawMonth : MethodName := ⟨RX10, "drawMonth", "(IIJZ)V"⟩
abbrev cX10_common : ByteArray := prog_12_method_49_code
def yX10_common : MethodName := ⟨RX10, "common", "(JJ)J"⟩
abbrev cX10_term : ByteArray := prog_12_method_50_code
def yX10_term : MethodName := ⟨RX10, "term", "(JJI)J"⟩
abbrev cX10_sure : ByteArray := prog_12_method_51_code
def yX10_sure : MethodName := ⟨RX10, "sure", "(II)J"⟩
abbrev cX10_mean : ByteArray := prog_12_method_52_code
def yX10_mean : MethodName := ⟨RX10, "mean", "(II)J"⟩
abbrev cX10_wise : ByteArray := prog_12_method_53_code
def yX10_wise : MethodName := ⟨RX10, "wise", "(IIZI)I"⟩
abbrev cX10_hedge : ByteArray := prog_12_method_54_code
def yX10_hedge : MethodName := ⟨RX10, "hedge", "()I"⟩
abbrev cX10_read : ByteArray := prog_12_method_55_code
def yX10_read : MethodName := ⟨RX10, "read", "(II)I"⟩
abbrev cX10_agrees : ByteArray := prog_12_method_56_code
def yX10_agrees : MethodName := ⟨RX10, "agrees", "(IIII)Z"⟩
abbrev cX10_leaks : ByteArray := prog_12_method_57_code
def yX10_leaks : MethodName := ⟨RX10, "leaks", "(III)I"⟩
abbrev cX10_image : ByteArray := prog_12_method_58_code
def yX10_image : MethodName := ⟨RX10, "image", "()I"⟩
abbrev cX10_restore : ByteArray := prog_12_method_59_code
def yX10_restore : MethodName := ⟨RX10, "restore", "()I"⟩
abbrev cX10_countOf : ByteArray := prog_12_method_60_code
def yX10_countOf : MethodName := ⟨RX10, "countOf", "(I)I"⟩
abbrev cX10_count : ByteArray := prog_12_method_61_code
def yX10_count : MethodName := ⟨RX10, "count", "(I)I"⟩
abbrev cX10_say : ByteArray := prog_12_method_62_code
def yX10_say : MethodName := ⟨RX10, "say", "(J)V"⟩
abbrev cX10_digest : ByteArray := prog_12_method_63_code
def yX10_digest : MethodName := ⟨RX10, "digest", "()J"⟩
def RJ9 : String := "java/lang/Math"
def TJ9 : u_T := fun k => match k with
  | _ => ("", "", "", false)
def tyJ9 : Nat → FieldType := fun k => match k with
  | _ => .int
theorem nmJ9 : ∀ a, a < 0 → ∀ b, b < 0 → a ≠ b → (TJ9 a).2.1 ≠ (TJ9 b).2.1 := by decide +kernel
theorem tyJ9_ok : ∀ k, k < 0 → parseFieldDescriptor (TJ9 k).2.2.1 = some (tyJ9 k) := by decide +kernel
abbrev cJ9_max_7cf53 : ByteArray := prog_13_method_65_code
def yJ9_max_7cf53 : MethodName := ⟨RJ9, "max", "(II)I"⟩
abbrev cJ9_min_7cf53 : ByteArray := prog_13_method_69_code
def yJ9_min_7cf53 : MethodName := ⟨RJ9, "min", "(II)I"⟩
def RJ10 : String := "java/lang/System"
def TJ10 : u_T := fun k => match k with
  | _ => ("", "", "", false)
def tyJ10 : Nat → FieldType := fun k => match k with
  | _ => .int
theorem nmJ10 : ∀ a, a < 0 → ∀ b, b < 0 → a ≠ b → (TJ10 a).2.1 ≠ (TJ10 b).2.1 := by decide +kernel
theorem tyJ10_ok : ∀ k, k < 0 → parseFieldDescriptor (TJ10 k).2.2.1 = some (tyJ10 k) := by decide +kernel
def RJ7 : String := "java/util/Arrays"
def TJ7 : u_T := fun k => match k with
  | _ => ("", "", "", false)
def tyJ7 : Nat → FieldType := fun k => match k with
  | _ => .int
theorem nmJ7 : ∀ a, a < 0 → ∀ b, b < 0 → a ≠ b → (TJ7 a).2.1 ≠ (TJ7 b).2.1 := by decide +kernel
theorem tyJ7_ok : ∀ k, k < 0 → parseFieldDescriptor (TJ7 k).2.2.1 = some (tyJ7 k) := by decide +kernel
abbrev cJ7_fill_d0a16 : ByteArray := prog_15_method_101_code
def yJ7_fill_d0a16 : MethodName := ⟨RJ7, "fill", "([JJ)V"⟩
abbrev cJ7_fill_53178 : ByteArray := prog_15_method_103_code
def yJ7_fill_53178 : MethodName := ⟨RJ7, "fill", "([II)V"⟩
def RL : String := "HowBigTankLaw"
abbrev cL_law : ByteArray := code
def yL_law : MethodName := ⟨RL, "law", "([I)Z"⟩
abbrev vwCl : List vw_C := [(RX0, TX0, 9), (RX1, TX1, 7), (RX2, TX2, 4), (RX3, TX3, 6), (RX4, TX4, 7), (RX5, TX5, 9), (RX6, TX6, 15), (RX7, TX7, 11), (RX8, TX8, 2), (RX9, TX9, 16), (RX10, TX10, 46)]
