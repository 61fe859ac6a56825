section
-- ===== PART A: goes FIRST, ahead of the names: the tables' words, and 'selects' of the private methods out of them =====
/-- a private method of a class that the tables say can be made, by its rows of tables_1 -/
def lw_okq (q : MethodName × Nat) : Prop := (q.1.cls ≠ "java/lang/invoke/MethodHandle" ∧ q.1.cls ≠ "java/lang/invoke/VarHandle") ∧ Cond.instantiable q.1.cls q.2 ∈ tables_1 ∧ Cond.privateMethod q.1 ∈ tables_1 ∧ Cond.instanceMethod q.1 ∈ tables_1
theorem lw_p0 : lw_okq (⟨"ThreeDays$Course", "setOptimum", "()V"⟩, 7) := ⟨⟨by decide +kernel, by decide +kernel⟩, List.mem_of_getElem? (i := 62) (by decide +kernel), List.mem_of_getElem? (i := 434) (by decide +kernel), List.mem_of_getElem? (i := 435) (by decide +kernel)⟩
theorem lw_p1 : lw_okq (⟨"ThreeDays$Board", "markStale", "(I)V"⟩, 6) := ⟨⟨by decide +kernel, by decide +kernel⟩, List.mem_of_getElem? (i := 268) (by decide +kernel), List.mem_of_getElem? (i := 442) (by decide +kernel), List.mem_of_getElem? (i := 443) (by decide +kernel)⟩
theorem lw_p2 : lw_okq (⟨"ThreeDays", "canBe", "(IIII)Z"⟩, 9) := ⟨⟨by decide +kernel, by decide +kernel⟩, List.mem_of_getElem? (i := 19) (by decide +kernel), List.mem_of_getElem? (i := 484) (by decide +kernel), List.mem_of_getElem? (i := 485) (by decide +kernel)⟩
theorem lw_p3 : lw_okq (⟨"ThreeDays$Log", "write", "(LThreeDays$Act;)V"⟩, 4) := ⟨⟨by decide +kernel, by decide +kernel⟩, List.mem_of_getElem? (i := 94) (by decide +kernel), List.mem_of_getElem? (i := 535) (by decide +kernel), List.mem_of_getElem? (i := 536) (by decide +kernel)⟩
theorem lw_p4 : lw_okq (⟨"ThreeDays$Log", "actAt", "(I)LThreeDays$Act;"⟩, 4) := ⟨⟨by decide +kernel, by decide +kernel⟩, List.mem_of_getElem? (i := 94) (by decide +kernel), List.mem_of_getElem? (i := 547) (by decide +kernel), List.mem_of_getElem? (i := 548) (by decide +kernel)⟩
theorem lw_p5 : lw_okq (⟨"ThreeDays$Reader", "advance", "()V"⟩, 15) := ⟨⟨by decide +kernel, by decide +kernel⟩, List.mem_of_getElem? (i := 116) (by decide +kernel), List.mem_of_getElem? (i := 567) (by decide +kernel), List.mem_of_getElem? (i := 568) (by decide +kernel)⟩
theorem lw_p6 : lw_okq (⟨"ThreeDays$Reader", "fail", "(II)V"⟩, 15) := ⟨⟨by decide +kernel, by decide +kernel⟩, List.mem_of_getElem? (i := 116) (by decide +kernel), List.mem_of_getElem? (i := 572) (by decide +kernel), List.mem_of_getElem? (i := 573) (by decide +kernel)⟩
theorem lw_p7 : lw_okq (⟨"ThreeDays$Reader", "readOutIf", "()V"⟩, 15) := ⟨⟨by decide +kernel, by decide +kernel⟩, List.mem_of_getElem? (i := 116) (by decide +kernel), List.mem_of_getElem? (i := 576) (by decide +kernel), List.mem_of_getElem? (i := 577) (by decide +kernel)⟩
theorem lw_p8 : lw_okq (⟨"ThreeDays$Reader", "readSum", "(I)V"⟩, 15) := ⟨⟨by decide +kernel, by decide +kernel⟩, List.mem_of_getElem? (i := 116) (by decide +kernel), List.mem_of_getElem? (i := 580) (by decide +kernel), List.mem_of_getElem? (i := 581) (by decide +kernel)⟩
theorem lw_p9 : lw_okq (⟨"ThreeDays$Reader", "readProduct", "(I)V"⟩, 15) := ⟨⟨by decide +kernel, by decide +kernel⟩, List.mem_of_getElem? (i := 116) (by decide +kernel), List.mem_of_getElem? (i := 584) (by decide +kernel), List.mem_of_getElem? (i := 585) (by decide +kernel)⟩
theorem lw_p10 : lw_okq (⟨"ThreeDays$Reader", "readFactor", "(I)V"⟩, 15) := ⟨⟨by decide +kernel, by decide +kernel⟩, List.mem_of_getElem? (i := 116) (by decide +kernel), List.mem_of_getElem? (i := 588) (by decide +kernel), List.mem_of_getElem? (i := 589) (by decide +kernel)⟩
theorem lw_p11 : lw_okq (⟨"ThreeDays$Reader", "pairStep", "()I"⟩, 15) := ⟨⟨by decide +kernel, by decide +kernel⟩, List.mem_of_getElem? (i := 116) (by decide +kernel), List.mem_of_getElem? (i := 592) (by decide +kernel), List.mem_of_getElem? (i := 593) (by decide +kernel)⟩
theorem lw_p12 : lw_okq (⟨"ThreeDays$Reader", "takeNumber", "()I"⟩, 15) := ⟨⟨by decide +kernel, by decide +kernel⟩, List.mem_of_getElem? (i := 116) (by decide +kernel), List.mem_of_getElem? (i := 596) (by decide +kernel), List.mem_of_getElem? (i := 597) (by decide +kernel)⟩
theorem lw_p13 : lw_okq (⟨"ThreeDays$Reader", "takeName", "(Z)I"⟩, 15) := ⟨⟨by decide +kernel, by decide +kernel⟩, List.mem_of_getElem? (i := 116) (by decide +kernel), List.mem_of_getElem? (i := 604) (by decide +kernel), List.mem_of_getElem? (i := 605) (by decide +kernel)⟩
theorem lw_p14 : lw_okq (⟨"ThreeDays$Reader", "slotOf", "(J)I"⟩, 15) := ⟨⟨by decide +kernel, by decide +kernel⟩, List.mem_of_getElem? (i := 116) (by decide +kernel), List.mem_of_getElem? (i := 608) (by decide +kernel), List.mem_of_getElem? (i := 609) (by decide +kernel)⟩
theorem lw_p15 : lw_okq (⟨"ThreeDays$Reader", "isKept", "(J)Z"⟩, 15) := ⟨⟨by decide +kernel, by decide +kernel⟩, List.mem_of_getElem? (i := 116) (by decide +kernel), List.mem_of_getElem? (i := 612) (by decide +kernel), List.mem_of_getElem? (i := 613) (by decide +kernel)⟩
def lw_privs_1 : List (MethodName × Nat) := [(⟨"ThreeDays$Course", "setOptimum", "()V"⟩, 7), (⟨"ThreeDays$Board", "markStale", "(I)V"⟩, 6), (⟨"ThreeDays", "canBe", "(IIII)Z"⟩, 9), (⟨"ThreeDays$Log", "write", "(LThreeDays$Act;)V"⟩, 4), (⟨"ThreeDays$Log", "actAt", "(I)LThreeDays$Act;"⟩, 4), (⟨"ThreeDays$Reader", "advance", "()V"⟩, 15), (⟨"ThreeDays$Reader", "fail", "(II)V"⟩, 15), (⟨"ThreeDays$Reader", "readOutIf", "()V"⟩, 15), (⟨"ThreeDays$Reader", "readSum", "(I)V"⟩, 15), (⟨"ThreeDays$Reader", "readProduct", "(I)V"⟩, 15), (⟨"ThreeDays$Reader", "readFactor", "(I)V"⟩, 15), (⟨"ThreeDays$Reader", "pairStep", "()I"⟩, 15), (⟨"ThreeDays$Reader", "takeNumber", "()I"⟩, 15), (⟨"ThreeDays$Reader", "takeName", "(Z)I"⟩, 15), (⟨"ThreeDays$Reader", "slotOf", "(J)I"⟩, 15), (⟨"ThreeDays$Reader", "isKept", "(J)Z"⟩, 15)]
theorem lw_r1 : ∀ q ∈ lw_privs_1, lw_okq q := List.forall_mem_cons.mpr ⟨lw_p0, List.forall_mem_cons.mpr ⟨lw_p1, List.forall_mem_cons.mpr ⟨lw_p2, List.forall_mem_cons.mpr ⟨lw_p3, List.forall_mem_cons.mpr ⟨lw_p4, List.forall_mem_cons.mpr ⟨lw_p5, List.forall_mem_cons.mpr ⟨lw_p6, List.forall_mem_cons.mpr ⟨lw_p7, List.forall_mem_cons.mpr ⟨lw_p8, List.forall_mem_cons.mpr ⟨lw_p9, List.forall_mem_cons.mpr ⟨lw_p10, List.forall_mem_cons.mpr ⟨lw_p11, List.forall_mem_cons.mpr ⟨lw_p12, List.forall_mem_cons.mpr ⟨lw_p13, List.forall_mem_cons.mpr ⟨lw_p14, List.forall_mem_cons.mpr ⟨lw_p15, fun _ h => absurd h List.not_mem_nil⟩⟩⟩⟩⟩⟩⟩⟩⟩⟩⟩⟩⟩⟩⟩⟩
theorem lw_p16 : lw_okq (⟨"ThreeDays$Reader", "expect", "(I)V"⟩, 15) := ⟨⟨by decide +kernel, by decide +kernel⟩, List.mem_of_getElem? (i := 116) (by decide +kernel), List.mem_of_getElem? (i := 616) (by decide +kernel), List.mem_of_getElem? (i := 617) (by decide +kernel)⟩
theorem lw_p17 : lw_okq (⟨"ThreeDays$Reader", "readDivisor", "()V"⟩, 15) := ⟨⟨by decide +kernel, by decide +kernel⟩, List.mem_of_getElem? (i := 116) (by decide +kernel), List.mem_of_getElem? (i := 620) (by decide +kernel), List.mem_of_getElem? (i := 621) (by decide +kernel)⟩
theorem lw_p18 : lw_okq (⟨"ThreeDays$Reader", "comparison", "()I"⟩, 15) := ⟨⟨by decide +kernel, by decide +kernel⟩, List.mem_of_getElem? (i := 116) (by decide +kernel), List.mem_of_getElem? (i := 624) (by decide +kernel), List.mem_of_getElem? (i := 625) (by decide +kernel)⟩
theorem lw_p19 : lw_okq (⟨"ThreeDays$Reader", "readTie", "()V"⟩, 15) := ⟨⟨by decide +kernel, by decide +kernel⟩, List.mem_of_getElem? (i := 116) (by decide +kernel), List.mem_of_getElem? (i := 632) (by decide +kernel), List.mem_of_getElem? (i := 633) (by decide +kernel)⟩
theorem lw_p20 : lw_okq (⟨"ThreeDays$Reader", "readGiving", "(I)V"⟩, 15) := ⟨⟨by decide +kernel, by decide +kernel⟩, List.mem_of_getElem? (i := 116) (by decide +kernel), List.mem_of_getElem? (i := 636) (by decide +kernel), List.mem_of_getElem? (i := 637) (by decide +kernel)⟩
theorem lw_p21 : lw_okq (⟨"ThreeDays", "toldAct", "()I"⟩, 9) := ⟨⟨by decide +kernel, by decide +kernel⟩, List.mem_of_getElem? (i := 19) (by decide +kernel), List.mem_of_getElem? (i := 661) (by decide +kernel), List.mem_of_getElem? (i := 662) (by decide +kernel)⟩
theorem lw_p22 : lw_okq (⟨"ThreeDays$Board", "moveTo", "(I)V"⟩, 6) := ⟨⟨by decide +kernel, by decide +kernel⟩, List.mem_of_getElem? (i := 268) (by decide +kernel), List.mem_of_getElem? (i := 669) (by decide +kernel), List.mem_of_getElem? (i := 670) (by decide +kernel)⟩
theorem lw_p23 : lw_okq (⟨"ThreeDays$Tally", "take", "(LThreeDays$Act;LThreeDays$Sheet;)V"⟩, 4) := ⟨⟨by decide +kernel, by decide +kernel⟩, List.mem_of_getElem? (i := 276) (by decide +kernel), List.mem_of_getElem? (i := 700) (by decide +kernel), List.mem_of_getElem? (i := 701) (by decide +kernel)⟩
theorem lw_p24 : lw_okq (⟨"ThreeDays$Tally", "see", "(II)V"⟩, 4) := ⟨⟨by decide +kernel, by decide +kernel⟩, List.mem_of_getElem? (i := 276) (by decide +kernel), List.mem_of_getElem? (i := 708) (by decide +kernel), List.mem_of_getElem? (i := 709) (by decide +kernel)⟩
theorem lw_p25 : lw_okq (⟨"ThreeDays$Tally", "takeTime", "(LThreeDays$Sheet;)V"⟩, 4) := ⟨⟨by decide +kernel, by decide +kernel⟩, List.mem_of_getElem? (i := 276) (by decide +kernel), List.mem_of_getElem? (i := 716) (by decide +kernel), List.mem_of_getElem? (i := 717) (by decide +kernel)⟩
theorem lw_p26 : lw_okq (⟨"ThreeDays$Tally", "takeFence", "(I[J)V"⟩, 4) := ⟨⟨by decide +kernel, by decide +kernel⟩, List.mem_of_getElem? (i := 276) (by decide +kernel), List.mem_of_getElem? (i := 725) (by decide +kernel), List.mem_of_getElem? (i := 726) (by decide +kernel)⟩
theorem lw_p27 : lw_okq (⟨"ThreeDays$Tally", "timesSeen", "(II)I"⟩, 4) := ⟨⟨by decide +kernel, by decide +kernel⟩, List.mem_of_getElem? (i := 276) (by decide +kernel), List.mem_of_getElem? (i := 729) (by decide +kernel), List.mem_of_getElem? (i := 730) (by decide +kernel)⟩
theorem lw_p28 : lw_okq (⟨"ThreeDays$Rules", "run", "(IILThreeDays$Sheet;)J"⟩, 9) := ⟨⟨by decide +kernel, by decide +kernel⟩, List.mem_of_getElem? (i := 233) (by decide +kernel), List.mem_of_getElem? (i := 737) (by decide +kernel), List.mem_of_getElem? (i := 738) (by decide +kernel)⟩
theorem lw_p29 : lw_okq (⟨"ThreeDays$Rules", "doStep", "(IILThreeDays$Sheet;)V"⟩, 9) := ⟨⟨by decide +kernel, by decide +kernel⟩, List.mem_of_getElem? (i := 233) (by decide +kernel), List.mem_of_getElem? (i := 741) (by decide +kernel), List.mem_of_getElem? (i := 742) (by decide +kernel)⟩
theorem lw_p30 : lw_okq (⟨"ThreeDays$Rules", "push", "(J)V"⟩, 9) := ⟨⟨by decide +kernel, by decide +kernel⟩, List.mem_of_getElem? (i := 233) (by decide +kernel), List.mem_of_getElem? (i := 745) (by decide +kernel), List.mem_of_getElem? (i := 746) (by decide +kernel)⟩
theorem lw_p31 : lw_okq (⟨"ThreeDays$Rules", "pop", "()J"⟩, 9) := ⟨⟨by decide +kernel, by decide +kernel⟩, List.mem_of_getElem? (i := 233) (by decide +kernel), List.mem_of_getElem? (i := 754) (by decide +kernel), List.mem_of_getElem? (i := 755) (by decide +kernel)⟩
def lw_privs_2 : List (MethodName × Nat) := [(⟨"ThreeDays$Reader", "expect", "(I)V"⟩, 15), (⟨"ThreeDays$Reader", "readDivisor", "()V"⟩, 15), (⟨"ThreeDays$Reader", "comparison", "()I"⟩, 15), (⟨"ThreeDays$Reader", "readTie", "()V"⟩, 15), (⟨"ThreeDays$Reader", "readGiving", "(I)V"⟩, 15), (⟨"ThreeDays", "toldAct", "()I"⟩, 9), (⟨"ThreeDays$Board", "moveTo", "(I)V"⟩, 6), (⟨"ThreeDays$Tally", "take", "(LThreeDays$Act;LThreeDays$Sheet;)V"⟩, 4), (⟨"ThreeDays$Tally", "see", "(II)V"⟩, 4), (⟨"ThreeDays$Tally", "takeTime", "(LThreeDays$Sheet;)V"⟩, 4), (⟨"ThreeDays$Tally", "takeFence", "(I[J)V"⟩, 4), (⟨"ThreeDays$Tally", "timesSeen", "(II)I"⟩, 4), (⟨"ThreeDays$Rules", "run", "(IILThreeDays$Sheet;)J"⟩, 9), (⟨"ThreeDays$Rules", "doStep", "(IILThreeDays$Sheet;)V"⟩, 9), (⟨"ThreeDays$Rules", "push", "(J)V"⟩, 9), (⟨"ThreeDays$Rules", "pop", "()J"⟩, 9)]
theorem lw_r2 : ∀ q ∈ lw_privs_2, lw_okq q := List.forall_mem_cons.mpr ⟨lw_p16, List.forall_mem_cons.mpr ⟨lw_p17, List.forall_mem_cons.mpr ⟨lw_p18, List.forall_mem_cons.mpr ⟨lw_p19, List.forall_mem_cons.mpr ⟨lw_p20, List.forall_mem_cons.mpr ⟨lw_p21, List.forall_mem_cons.mpr ⟨lw_p22, List.forall_mem_cons.mpr ⟨lw_p23, List.forall_mem_cons.mpr ⟨lw_p24, List.forall_mem_cons.mpr ⟨lw_p25, List.forall_mem_cons.mpr ⟨lw_p26, List.forall_mem_cons.mpr ⟨lw_p27, List.forall_mem_cons.mpr ⟨lw_p28, List.forall_mem_cons.mpr ⟨lw_p29, List.forall_mem_cons.mpr ⟨lw_p30, List.forall_mem_cons.mpr ⟨lw_p31, fun _ h => absurd h List.not_mem_nil⟩⟩⟩⟩⟩⟩⟩⟩⟩⟩⟩⟩⟩⟩⟩⟩
theorem lw_p32 : lw_okq (⟨"ThreeDays$Board", "numberAhead", "(LThreeDays$Sheet;)I"⟩, 6) := ⟨⟨by decide +kernel, by decide +kernel⟩, List.mem_of_getElem? (i := 268) (by decide +kernel), List.mem_of_getElem? (i := 826) (by decide +kernel), List.mem_of_getElem? (i := 827) (by decide +kernel)⟩
theorem lw_p33 : lw_okq (⟨"ThreeDays$Board", "isPlacedFor", "(II)Z"⟩, 6) := ⟨⟨by decide +kernel, by decide +kernel⟩, List.mem_of_getElem? (i := 268) (by decide +kernel), List.mem_of_getElem? (i := 841) (by decide +kernel), List.mem_of_getElem? (i := 842) (by decide +kernel)⟩
theorem lw_p34 : lw_okq (⟨"ThreeDays$Board", "leastOfTeam", "(I)J"⟩, 6) := ⟨⟨by decide +kernel, by decide +kernel⟩, List.mem_of_getElem? (i := 268) (by decide +kernel), List.mem_of_getElem? (i := 861) (by decide +kernel), List.mem_of_getElem? (i := 862) (by decide +kernel)⟩
theorem lw_p35 : lw_okq (⟨"ThreeDays$Board", "numberEarlier", "(I)I"⟩, 6) := ⟨⟨by decide +kernel, by decide +kernel⟩, List.mem_of_getElem? (i := 268) (by decide +kernel), List.mem_of_getElem? (i := 875) (by decide +kernel), List.mem_of_getElem? (i := 876) (by decide +kernel)⟩
theorem lw_p36 : lw_okq (⟨"ThreeDaysModel", "put", "(I)V"⟩, 44) := ⟨⟨by decide +kernel, by decide +kernel⟩, List.mem_of_getElem? (i := 887) (by decide +kernel), List.mem_of_getElem? (i := 1031) (by decide +kernel), List.mem_of_getElem? (i := 1032) (by decide +kernel)⟩
theorem lw_p37 : lw_okq (⟨"ThreeDaysModel", "optimum", "()I"⟩, 44) := ⟨⟨by decide +kernel, by decide +kernel⟩, List.mem_of_getElem? (i := 887) (by decide +kernel), List.mem_of_getElem? (i := 1054) (by decide +kernel), List.mem_of_getElem? (i := 1055) (by decide +kernel)⟩
theorem lw_p38 : lw_okq (⟨"ThreeDaysModel", "may", "(IIII)Z"⟩, 44) := ⟨⟨by decide +kernel, by decide +kernel⟩, List.mem_of_getElem? (i := 887) (by decide +kernel), List.mem_of_getElem? (i := 1071) (by decide +kernel), List.mem_of_getElem? (i := 1072) (by decide +kernel)⟩
theorem lw_p39 : lw_okq (⟨"ThreeDaysModel", "isRider", "(I)Z"⟩, 44) := ⟨⟨by decide +kernel, by decide +kernel⟩, List.mem_of_getElem? (i := 887) (by decide +kernel), List.mem_of_getElem? (i := 1091) (by decide +kernel), List.mem_of_getElem? (i := 1092) (by decide +kernel)⟩
theorem lw_p40 : lw_okq (⟨"ThreeDaysModel", "known", "()I"⟩, 44) := ⟨⟨by decide +kernel, by decide +kernel⟩, List.mem_of_getElem? (i := 887) (by decide +kernel), List.mem_of_getElem? (i := 1096) (by decide +kernel), List.mem_of_getElem? (i := 1097) (by decide +kernel)⟩
theorem lw_p41 : lw_okq (⟨"ThreeDaysModel", "tallies", "(II)V"⟩, 44) := ⟨⟨by decide +kernel, by decide +kernel⟩, List.mem_of_getElem? (i := 887) (by decide +kernel), List.mem_of_getElem? (i := 1100) (by decide +kernel), List.mem_of_getElem? (i := 1101) (by decide +kernel)⟩
theorem lw_p42 : lw_okq (⟨"ThreeDaysModel", "stands", "(III)Z"⟩, 44) := ⟨⟨by decide +kernel, by decide +kernel⟩, List.mem_of_getElem? (i := 887) (by decide +kernel), List.mem_of_getElem? (i := 1105) (by decide +kernel), List.mem_of_getElem? (i := 1106) (by decide +kernel)⟩
theorem lw_p43 : lw_okq (⟨"ThreeDaysModel", "fence", "(IIIII)V"⟩, 44) := ⟨⟨by decide +kernel, by decide +kernel⟩, List.mem_of_getElem? (i := 887) (by decide +kernel), List.mem_of_getElem? (i := 1109) (by decide +kernel), List.mem_of_getElem? (i := 1110) (by decide +kernel)⟩
theorem lw_p44 : lw_okq (⟨"ThreeDaysModel", "here", "()I"⟩, 44) := ⟨⟨by decide +kernel, by decide +kernel⟩, List.mem_of_getElem? (i := 887) (by decide +kernel), List.mem_of_getElem? (i := 1117) (by decide +kernel), List.mem_of_getElem? (i := 1118) (by decide +kernel)⟩
theorem lw_p45 : lw_okq (⟨"ThreeDaysModel", "statement", "()V"⟩, 44) := ⟨⟨by decide +kernel, by decide +kernel⟩, List.mem_of_getElem? (i := 887) (by decide +kernel), List.mem_of_getElem? (i := 1121) (by decide +kernel), List.mem_of_getElem? (i := 1122) (by decide +kernel)⟩
theorem lw_p46 : lw_okq (⟨"ThreeDaysModel", "wordSize", "()I"⟩, 44) := ⟨⟨by decide +kernel, by decide +kernel⟩, List.mem_of_getElem? (i := 887) (by decide +kernel), List.mem_of_getElem? (i := 1125) (by decide +kernel), List.mem_of_getElem? (i := 1126) (by decide +kernel)⟩
theorem lw_p47 : lw_okq (⟨"ThreeDaysModel", "blame", "(II)V"⟩, 44) := ⟨⟨by decide +kernel, by decide +kernel⟩, List.mem_of_getElem? (i := 887) (by decide +kernel), List.mem_of_getElem? (i := 1132) (by decide +kernel), List.mem_of_getElem? (i := 1133) (by decide +kernel)⟩
def lw_privs_3 : List (MethodName × Nat) := [(⟨"ThreeDays$Board", "numberAhead", "(LThreeDays$Sheet;)I"⟩, 6), (⟨"ThreeDays$Board", "isPlacedFor", "(II)Z"⟩, 6), (⟨"ThreeDays$Board", "leastOfTeam", "(I)J"⟩, 6), (⟨"ThreeDays$Board", "numberEarlier", "(I)I"⟩, 6), (⟨"ThreeDaysModel", "put", "(I)V"⟩, 44), (⟨"ThreeDaysModel", "optimum", "()I"⟩, 44), (⟨"ThreeDaysModel", "may", "(IIII)Z"⟩, 44), (⟨"ThreeDaysModel", "isRider", "(I)Z"⟩, 44), (⟨"ThreeDaysModel", "known", "()I"⟩, 44), (⟨"ThreeDaysModel", "tallies", "(II)V"⟩, 44), (⟨"ThreeDaysModel", "stands", "(III)Z"⟩, 44), (⟨"ThreeDaysModel", "fence", "(IIIII)V"⟩, 44), (⟨"ThreeDaysModel", "here", "()I"⟩, 44), (⟨"ThreeDaysModel", "statement", "()V"⟩, 44), (⟨"ThreeDaysModel", "wordSize", "()I"⟩, 44), (⟨"ThreeDaysModel", "blame", "(II)V"⟩, 44)]
theorem lw_r3 : ∀ q ∈ lw_privs_3, lw_okq q := List.forall_mem_cons.mpr ⟨lw_p32, List.forall_mem_cons.mpr ⟨lw_p33, List.forall_mem_cons.mpr ⟨lw_p34, List.forall_mem_cons.mpr ⟨lw_p35, List.forall_mem_cons.mpr ⟨lw_p36, List.forall_mem_cons.mpr ⟨lw_p37, List.forall_mem_cons.mpr ⟨lw_p38, List.forall_mem_cons.mpr ⟨lw_p39, List.forall_mem_cons.mpr ⟨lw_p40, List.forall_mem_cons.mpr ⟨lw_p41, List.forall_mem_cons.mpr ⟨lw_p42, List.forall_mem_cons.mpr ⟨lw_p43, List.forall_mem_cons.mpr ⟨lw_p44, List.forall_mem_cons.mpr ⟨lw_p45, List.forall_mem_cons.mpr ⟨lw_p46, List.forall_mem_cons.mpr ⟨lw_p47, fun _ h => absurd h List.not_mem_nil⟩⟩⟩⟩⟩⟩⟩⟩⟩⟩⟩⟩⟩⟩⟩⟩
theorem lw_p48 : lw_okq (⟨"ThreeDaysModel", "isIf", "(II)Z"⟩, 44) := ⟨⟨by decide +kernel, by decide +kernel⟩, List.mem_of_getElem? (i := 887) (by decide +kernel), List.mem_of_getElem? (i := 1136) (by decide +kernel), List.mem_of_getElem? (i := 1137) (by decide +kernel)⟩
theorem lw_p49 : lw_okq (⟨"ThreeDaysModel", "spells", "(IIJI)Z"⟩, 44) := ⟨⟨by decide +kernel, by decide +kernel⟩, List.mem_of_getElem? (i := 887) (by decide +kernel), List.mem_of_getElem? (i := 1141) (by decide +kernel), List.mem_of_getElem? (i := 1142) (by decide +kernel)⟩
theorem lw_p50 : lw_okq (⟨"ThreeDaysModel", "isMax", "(II)Z"⟩, 44) := ⟨⟨by decide +kernel, by decide +kernel⟩, List.mem_of_getElem? (i := 887) (by decide +kernel), List.mem_of_getElem? (i := 1146) (by decide +kernel), List.mem_of_getElem? (i := 1147) (by decide +kernel)⟩
theorem lw_p51 : lw_okq (⟨"ThreeDaysModel", "isMin", "(II)Z"⟩, 44) := ⟨⟨by decide +kernel, by decide +kernel⟩, List.mem_of_getElem? (i := 887) (by decide +kernel), List.mem_of_getElem? (i := 1151) (by decide +kernel), List.mem_of_getElem? (i := 1152) (by decide +kernel)⟩
theorem lw_p52 : lw_okq (⟨"ThreeDaysModel", "isOut", "(II)Z"⟩, 44) := ⟨⟨by decide +kernel, by decide +kernel⟩, List.mem_of_getElem? (i := 887) (by decide +kernel), List.mem_of_getElem? (i := 1156) (by decide +kernel), List.mem_of_getElem? (i := 1157) (by decide +kernel)⟩
theorem lw_p53 : lw_okq (⟨"ThreeDaysModel", "sum", "()V"⟩, 44) := ⟨⟨by decide +kernel, by decide +kernel⟩, List.mem_of_getElem? (i := 887) (by decide +kernel), List.mem_of_getElem? (i := 1161) (by decide +kernel), List.mem_of_getElem? (i := 1162) (by decide +kernel)⟩
theorem lw_p54 : lw_okq (⟨"ThreeDaysModel", "operand", "()Z"⟩, 44) := ⟨⟨by decide +kernel, by decide +kernel⟩, List.mem_of_getElem? (i := 887) (by decide +kernel), List.mem_of_getElem? (i := 1165) (by decide +kernel), List.mem_of_getElem? (i := 1166) (by decide +kernel)⟩
theorem lw_p55 : lw_okq (⟨"ThreeDaysModel", "digits", "()I"⟩, 44) := ⟨⟨by decide +kernel, by decide +kernel⟩, List.mem_of_getElem? (i := 887) (by decide +kernel), List.mem_of_getElem? (i := 1172) (by decide +kernel), List.mem_of_getElem? (i := 1173) (by decide +kernel)⟩
theorem lw_p56 : lw_okq (⟨"ThreeDaysModel", "add", "(II)V"⟩, 44) := ⟨⟨by decide +kernel, by decide +kernel⟩, List.mem_of_getElem? (i := 887) (by decide +kernel), List.mem_of_getElem? (i := 1176) (by decide +kernel), List.mem_of_getElem? (i := 1177) (by decide +kernel)⟩
theorem lw_p57 : lw_okq (⟨"ThreeDaysModel", "opens", "(I)V"⟩, 44) := ⟨⟨by decide +kernel, by decide +kernel⟩, List.mem_of_getElem? (i := 887) (by decide +kernel), List.mem_of_getElem? (i := 1180) (by decide +kernel), List.mem_of_getElem? (i := 1181) (by decide +kernel)⟩
theorem lw_p58 : lw_okq (⟨"ThreeDaysModel", "isTie", "(II)Z"⟩, 44) := ⟨⟨by decide +kernel, by decide +kernel⟩, List.mem_of_getElem? (i := 887) (by decide +kernel), List.mem_of_getElem? (i := 1184) (by decide +kernel), List.mem_of_getElem? (i := 1185) (by decide +kernel)⟩
theorem lw_p59 : lw_okq (⟨"ThreeDaysModel", "whichCount", "(II)I"⟩, 44) := ⟨⟨by decide +kernel, by decide +kernel⟩, List.mem_of_getElem? (i := 887) (by decide +kernel), List.mem_of_getElem? (i := 1189) (by decide +kernel), List.mem_of_getElem? (i := 1190) (by decide +kernel)⟩
theorem lw_p60 : lw_okq (⟨"ThreeDaysModel", "whichGiven", "(II)I"⟩, 44) := ⟨⟨by decide +kernel, by decide +kernel⟩, List.mem_of_getElem? (i := 887) (by decide +kernel), List.mem_of_getElem? (i := 1208) (by decide +kernel), List.mem_of_getElem? (i := 1209) (by decide +kernel)⟩
theorem lw_p61 : lw_okq (⟨"ThreeDaysModel", "joins", "(Z)V"⟩, 44) := ⟨⟨by decide +kernel, by decide +kernel⟩, List.mem_of_getElem? (i := 887) (by decide +kernel), List.mem_of_getElem? (i := 1212) (by decide +kernel), List.mem_of_getElem? (i := 1213) (by decide +kernel)⟩
theorem lw_p62 : lw_okq (⟨"ThreeDaysModel", "closes", "()V"⟩, 44) := ⟨⟨by decide +kernel, by decide +kernel⟩, List.mem_of_getElem? (i := 887) (by decide +kernel), List.mem_of_getElem? (i := 1216) (by decide +kernel), List.mem_of_getElem? (i := 1217) (by decide +kernel)⟩
theorem lw_p63 : lw_okq (⟨"ThreeDaysModel", "commas", "()V"⟩, 44) := ⟨⟨by decide +kernel, by decide +kernel⟩, List.mem_of_getElem? (i := 887) (by decide +kernel), List.mem_of_getElem? (i := 1220) (by decide +kernel), List.mem_of_getElem? (i := 1221) (by decide +kernel)⟩
def lw_privs_4 : List (MethodName × Nat) := [(⟨"ThreeDaysModel", "isIf", "(II)Z"⟩, 44), (⟨"ThreeDaysModel", "spells", "(IIJI)Z"⟩, 44), (⟨"ThreeDaysModel", "isMax", "(II)Z"⟩, 44), (⟨"ThreeDaysModel", "isMin", "(II)Z"⟩, 44), (⟨"ThreeDaysModel", "isOut", "(II)Z"⟩, 44), (⟨"ThreeDaysModel", "sum", "()V"⟩, 44), (⟨"ThreeDaysModel", "operand", "()Z"⟩, 44), (⟨"ThreeDaysModel", "digits", "()I"⟩, 44), (⟨"ThreeDaysModel", "add", "(II)V"⟩, 44), (⟨"ThreeDaysModel", "opens", "(I)V"⟩, 44), (⟨"ThreeDaysModel", "isTie", "(II)Z"⟩, 44), (⟨"ThreeDaysModel", "whichCount", "(II)I"⟩, 44), (⟨"ThreeDaysModel", "whichGiven", "(II)I"⟩, 44), (⟨"ThreeDaysModel", "joins", "(Z)V"⟩, 44), (⟨"ThreeDaysModel", "closes", "()V"⟩, 44), (⟨"ThreeDaysModel", "commas", "()V"⟩, 44)]
theorem lw_r4 : ∀ q ∈ lw_privs_4, lw_okq q := List.forall_mem_cons.mpr ⟨lw_p48, List.forall_mem_cons.mpr ⟨lw_p49, List.forall_mem_cons.mpr ⟨lw_p50, List.forall_mem_cons.mpr ⟨lw_p51, List.forall_mem_cons.mpr ⟨lw_p52, List.forall_mem_cons.mpr ⟨lw_p53, List.forall_mem_cons.mpr ⟨lw_p54, List.forall_mem_cons.mpr ⟨lw_p55, List.forall_mem_cons.mpr ⟨lw_p56, List.forall_mem_cons.mpr ⟨lw_p57, List.forall_mem_cons.mpr ⟨lw_p58, List.forall_mem_cons.mpr ⟨lw_p59, List.forall_mem_cons.mpr ⟨lw_p60, List.forall_mem_cons.mpr ⟨lw_p61, List.forall_mem_cons.mpr ⟨lw_p62, List.forall_mem_cons.mpr ⟨lw_p63, fun _ h => absurd h List.not_mem_nil⟩⟩⟩⟩⟩⟩⟩⟩⟩⟩⟩⟩⟩⟩⟩⟩
theorem lw_p64 : lw_okq (⟨"ThreeDaysModel", "must", "(I)V"⟩, 44) := ⟨⟨by decide +kernel, by decide +kernel⟩, List.mem_of_getElem? (i := 887) (by decide +kernel), List.mem_of_getElem? (i := 1224) (by decide +kernel), List.mem_of_getElem? (i := 1225) (by decide +kernel)⟩
theorem lw_p65 : lw_okq (⟨"ThreeDaysModel", "worksAll", "(II)V"⟩, 44) := ⟨⟨by decide +kernel, by decide +kernel⟩, List.mem_of_getElem? (i := 887) (by decide +kernel), List.mem_of_getElem? (i := 1238) (by decide +kernel), List.mem_of_getElem? (i := 1239) (by decide +kernel)⟩
theorem lw_p66 : lw_okq (⟨"ThreeDaysModel", "works", "(II)J"⟩, 44) := ⟨⟨by decide +kernel, by decide +kernel⟩, List.mem_of_getElem? (i := 887) (by decide +kernel), List.mem_of_getElem? (i := 1242) (by decide +kernel), List.mem_of_getElem? (i := 1243) (by decide +kernel)⟩
theorem lw_p67 : lw_okq (⟨"ThreeDaysModel", "totalOf", "(I)J"⟩, 44) := ⟨⟨by decide +kernel, by decide +kernel⟩, List.mem_of_getElem? (i := 887) (by decide +kernel), List.mem_of_getElem? (i := 1264) (by decide +kernel), List.mem_of_getElem? (i := 1265) (by decide +kernel)⟩
theorem lw_p68 : lw_okq (⟨"ThreeDaysModel", "reckons", "(I)V"⟩, 44) := ⟨⟨by decide +kernel, by decide +kernel⟩, List.mem_of_getElem? (i := 887) (by decide +kernel), List.mem_of_getElem? (i := 1276) (by decide +kernel), List.mem_of_getElem? (i := 1277) (by decide +kernel)⟩
theorem lw_p69 : lw_okq (⟨"ThreeDaysModel", "stand", "(II)I"⟩, 44) := ⟨⟨by decide +kernel, by decide +kernel⟩, List.mem_of_getElem? (i := 887) (by decide +kernel), List.mem_of_getElem? (i := 1280) (by decide +kernel), List.mem_of_getElem? (i := 1281) (by decide +kernel)⟩
theorem lw_p70 : lw_okq (⟨"ThreeDaysModel", "placeOf", "(I)I"⟩, 44) := ⟨⟨by decide +kernel, by decide +kernel⟩, List.mem_of_getElem? (i := 887) (by decide +kernel), List.mem_of_getElem? (i := 1288) (by decide +kernel), List.mem_of_getElem? (i := 1289) (by decide +kernel)⟩
theorem lw_p71 : lw_okq (⟨"ThreeDaysModel", "hasRiders", "(I)Z"⟩, 44) := ⟨⟨by decide +kernel, by decide +kernel⟩, List.mem_of_getElem? (i := 887) (by decide +kernel), List.mem_of_getElem? (i := 1296) (by decide +kernel), List.mem_of_getElem? (i := 1297) (by decide +kernel)⟩
theorem lw_p72 : lw_okq (⟨"ThreeDaysModel", "teamOf", "(I)J"⟩, 44) := ⟨⟨by decide +kernel, by decide +kernel⟩, List.mem_of_getElem? (i := 887) (by decide +kernel), List.mem_of_getElem? (i := 1301) (by decide +kernel), List.mem_of_getElem? (i := 1302) (by decide +kernel)⟩
theorem lw_p73 : lw_okq (⟨"ThreeDaysModel", "least", "(II)J"⟩, 44) := ⟨⟨by decide +kernel, by decide +kernel⟩, List.mem_of_getElem? (i := 887) (by decide +kernel), List.mem_of_getElem? (i := 1305) (by decide +kernel), List.mem_of_getElem? (i := 1306) (by decide +kernel)⟩
def lw_privs_5 : List (MethodName × Nat) := [(⟨"ThreeDaysModel", "must", "(I)V"⟩, 44), (⟨"ThreeDaysModel", "worksAll", "(II)V"⟩, 44), (⟨"ThreeDaysModel", "works", "(II)J"⟩, 44), (⟨"ThreeDaysModel", "totalOf", "(I)J"⟩, 44), (⟨"ThreeDaysModel", "reckons", "(I)V"⟩, 44), (⟨"ThreeDaysModel", "stand", "(II)I"⟩, 44), (⟨"ThreeDaysModel", "placeOf", "(I)I"⟩, 44), (⟨"ThreeDaysModel", "hasRiders", "(I)Z"⟩, 44), (⟨"ThreeDaysModel", "teamOf", "(I)J"⟩, 44), (⟨"ThreeDaysModel", "least", "(II)J"⟩, 44)]
theorem lw_r5 : ∀ q ∈ lw_privs_5, lw_okq q := List.forall_mem_cons.mpr ⟨lw_p64, List.forall_mem_cons.mpr ⟨lw_p65, List.forall_mem_cons.mpr ⟨lw_p66, List.forall_mem_cons.mpr ⟨lw_p67, List.forall_mem_cons.mpr ⟨lw_p68, List.forall_mem_cons.mpr ⟨lw_p69, List.forall_mem_cons.mpr ⟨lw_p70, List.forall_mem_cons.mpr ⟨lw_p71, List.forall_mem_cons.mpr ⟨lw_p72, List.forall_mem_cons.mpr ⟨lw_p73, fun _ h => absurd h List.not_mem_nil⟩⟩⟩⟩⟩⟩⟩⟩⟩⟩
def lw_privs : List (MethodName × Nat) := lw_privs_1 ++ (lw_privs_2 ++ (lw_privs_3 ++ (lw_privs_4 ++ (lw_privs_5))))
def lw_tbl : List Cond := k2_sels lw_privs ++ tables_1
theorem lw_privs_ok : ∀ q ∈ lw_privs, lw_okq q := by
  show ∀ q ∈ lw_privs_1 ++ (lw_privs_2 ++ (lw_privs_3 ++ (lw_privs_4 ++ (lw_privs_5)))), lw_okq q
  exact List.forall_mem_append.mpr ⟨lw_r1, List.forall_mem_append.mpr ⟨lw_r2, List.forall_mem_append.mpr ⟨lw_r3, List.forall_mem_append.mpr ⟨lw_r4, lw_r5⟩⟩⟩⟩
end
section
def RX0 : String := "ThreeDays$Act"
def TX0 : u_T := fun k => match k with
  | 0 => ("ThreeDays$Act", "rider", "I", true)
  | 1 => ("ThreeDays$Act", "kind", "I", true)
  | 2 => ("ThreeDays$Act", "fence", "I", true)
  | 3 => ("ThreeDays$Act", "a", "I", true)
  | 4 => ("ThreeDays$Act", "b", "I", true)
  | 5 => ("ThreeDays$Act", "number", "I", false)
  | 6 => ("ThreeDays$Act", "struckBy", "I", false)
  | _ => ("ThreeDays$Act", "next", "LThreeDays$Act;", false)
def tyX0 : Nat → FieldType := fun k => match k with
  | 0 => .int
  | 1 => .int
  | 2 => .int
  | 3 => .int
  | 4 => .int
  | 5 => .int
  | 6 => .int
  | _ => .object "ThreeDays$Act"
theorem nmX0 : ∀ a, a < 8 → ∀ b, b < 8 → a ≠ b → (TX0 a).2.1 ≠ (TX0 b).2.1 := by decide +kernel
theorem tyX0_ok : ∀ k, k < 8 → parseFieldDescriptor (TX0 k).2.2.1 = some (tyX0 k) := by decide +kernel
abbrev cX0_init : ByteArray := prog_2_method_1_code
def yX0_init : MethodName := ⟨RX0, "<init>", "(IIIII)V"⟩
abbrev cX0_isKnownAt : ByteArray := prog_2_method_2_code
def yX0_isKnownAt : MethodName := ⟨RX0, "isKnownAt", "(I)Z"⟩
def RX1 : String := "ThreeDays$Board"
def TX1 : u_T := fun k => match k with
  | 0 => ("ThreeDays$Board", "riders", "LThreeDays$Riders;", true)
  | 1 => ("ThreeDays$Board", "log", "LThreeDays$Log;", true)
  | 2 => ("ThreeDays$Board", "tally", "LThreeDays$Tally;", true)
  | 3 => ("ThreeDays$Board", "sheets", "[LThreeDays$Sheet;", true)
  | 4 => ("ThreeDays$Board", "rules", "LThreeDays$Rules;", false)
  | _ => ("ThreeDays$Board", "knownAct", "I", false)
def tyX1 : Nat → FieldType := fun k => match k with
  | 0 => .object "ThreeDays$Riders"
  | 1 => .object "ThreeDays$Log"
  | 2 => .object "ThreeDays$Tally"
  | 3 => .array (.object "ThreeDays$Sheet")
  | 4 => .object "ThreeDays$Rules"
  | _ => .int
theorem nmX1 : ∀ a, a < 6 → ∀ b, b < 6 → a ≠ b → (TX1 a).2.1 ≠ (TX1 b).2.1 := by decide +kernel
theorem tyX1_ok : ∀ k, k < 6 → parseFieldDescriptor (TX1 k).2.2.1 = some (tyX1 k) := by decide +kernel
abbrev cX1_init : ByteArray := prog_3_method_1_code
def yX1_init : MethodName := ⟨RX1, "<init>", "(LThreeDays$Riders;LThreeDays$Course;LThreeDays$Log;LThreeDays$Rules;)V"⟩
abbrev cX1_forget : ByteArray := prog_3_method_2_code
def yX1_forget : MethodName := ⟨RX1, "forget", "()V"⟩
abbrev cX1_follow : ByteArray := prog_3_method_3_code
def yX1_follow : MethodName := ⟨RX1, "follow", "(LThreeDays$Rules;)V"⟩
abbrev cX1_knowAt : ByteArray := prog_3_method_4_code
def yX1_knowAt : MethodName := ⟨RX1, "knowAt", "(I)V"⟩
abbrev cX1_moveTo : ByteArray := prog_3_method_5_code
def yX1_moveTo : MethodName := ⟨RX1, "moveTo", "(I)V"⟩
abbrev cX1_markStale : ByteArray := prog_3_method_6_code
def yX1_markStale : MethodName := ⟨RX1, "markStale", "(I)V"⟩
abbrev cX1_sheetAt : ByteArray := prog_3_method_7_code
def yX1_sheetAt : MethodName := ⟨RX1, "sheetAt", "(I)LThreeDays$Sheet;"⟩
abbrev cX1_placeOf : ByteArray := prog_3_method_8_code
def yX1_placeOf : MethodName := ⟨RX1, "placeOf", "(I)I"⟩
abbrev cX1_numberAhead : ByteArray := prog_3_method_9_code
def yX1_numberAhead : MethodName := ⟨RX1, "numberAhead", "(LThreeDays$Sheet;)I"⟩
abbrev cX1_inRing : ByteArray := prog_3_method_10_code
def yX1_inRing : MethodName := ⟨RX1, "inRing", "(I)I"⟩
abbrev cX1_numberEarlier : ByteArray := prog_3_method_11_code
def yX1_numberEarlier : MethodName := ⟨RX1, "numberEarlier", "(I)I"⟩
abbrev cX1_teamSum : ByteArray := prog_3_method_12_code
def yX1_teamSum : MethodName := ⟨RX1, "teamSum", "(I)J"⟩
abbrev cX1_leastOfTeam : ByteArray := prog_3_method_13_code
def yX1_leastOfTeam : MethodName := ⟨RX1, "leastOfTeam", "(I)J"⟩
abbrev cX1_isPlacedFor : ByteArray := prog_3_method_14_code
def yX1_isPlacedFor : MethodName := ⟨RX1, "isPlacedFor", "(II)Z"⟩
abbrev cX1_placeOfTeam : ByteArray := prog_3_method_15_code
def yX1_placeOfTeam : MethodName := ⟨RX1, "placeOfTeam", "(I)I"⟩
def RX2 : String := "ThreeDays$Course"
def TX2 : u_T := fun k => match k with
  | 0 => ("ThreeDays$Course", "aheads", "[I", true)
  | 1 => ("ThreeDays$Course", "outFrom", "[I", true)
  | 2 => ("ThreeDays$Course", "fenceMetres", "I", false)
  | 3 => ("ThreeDays$Course", "endMetres", "I", false)
  | 4 => ("ThreeDays$Course", "speed", "I", false)
  | 5 => ("ThreeDays$Course", "fences", "I", false)
  | _ => ("ThreeDays$Course", "optimum", "I", false)
def tyX2 : Nat → FieldType := fun k => match k with
  | 0 => .array .int
  | 1 => .array .int
  | 2 => .int
  | 3 => .int
  | 4 => .int
  | 5 => .int
  | _ => .int
theorem nmX2 : ∀ a, a < 7 → ∀ b, b < 7 → a ≠ b → (TX2 a).2.1 ≠ (TX2 b).2.1 := by decide +kernel
theorem tyX2_ok : ∀ k, k < 7 → parseFieldDescriptor (TX2 k).2.2.1 = some (tyX2 k) := by decide +kernel
abbrev cX2_init : ByteArray := prog_4_method_1_code
def yX2_init : MethodName := ⟨RX2, "<init>", "()V"⟩
abbrev cX2_addFence : ByteArray := prog_4_method_2_code
def yX2_addFence : MethodName := ⟨RX2, "addFence", "(I)I"⟩
abbrev cX2_measure : ByteArray := prog_4_method_3_code
def yX2_measure : MethodName := ⟨RX2, "measure", "(II)I"⟩
abbrev cX2_setOptimum : ByteArray := prog_4_method_4_code
def yX2_setOptimum : MethodName := ⟨RX2, "setOptimum", "()V"⟩
abbrev cX2_setClock : ByteArray := prog_4_method_5_code
def yX2_setClock : MethodName := ⟨RX2, "setClock", "(II)Z"⟩
abbrev cX2_takeOut : ByteArray := prog_4_method_6_code
def yX2_takeOut : MethodName := ⟨RX2, "takeOut", "(II)Z"⟩
abbrev cX2_hasFence : ByteArray := prog_4_method_7_code
def yX2_hasFence : MethodName := ⟨RX2, "hasFence", "(I)Z"⟩
abbrev cX2_putRight : ByteArray := prog_4_method_8_code
def yX2_putRight : MethodName := ⟨RX2, "putRight", "(II)I"⟩
abbrev cX2_isFenceFor : ByteArray := prog_4_method_9_code
def yX2_isFenceFor : MethodName := ⟨RX2, "isFenceFor", "(LThreeDays$Sheet;I)Z"⟩
def RX3 : String := "ThreeDays$Log"
def TX3 : u_T := fun k => match k with
  | 0 => ("ThreeDays$Log", "written", "[LThreeDays$Act;", true)
  | 1 => ("ThreeDays$Log", "oldest", "[LThreeDays$Act;", true)
  | 2 => ("ThreeDays$Log", "newest", "[LThreeDays$Act;", true)
  | _ => ("ThreeDays$Log", "acts", "I", false)
def tyX3 : Nat → FieldType := fun k => match k with
  | 0 => .array (.object "ThreeDays$Act")
  | 1 => .array (.object "ThreeDays$Act")
  | 2 => .array (.object "ThreeDays$Act")
  | _ => .int
theorem nmX3 : ∀ a, a < 4 → ∀ b, b < 4 → a ≠ b → (TX3 a).2.1 ≠ (TX3 b).2.1 := by decide +kernel
theorem tyX3_ok : ∀ k, k < 4 → parseFieldDescriptor (TX3 k).2.2.1 = some (tyX3 k) := by decide +kernel
abbrev cX3_init : ByteArray := prog_5_method_1_code
def yX3_init : MethodName := ⟨RX3, "<init>", "()V"⟩
abbrev cX3_addReport : ByteArray := prog_5_method_2_code
def yX3_addReport : MethodName := ⟨RX3, "addReport", "(IIIII)I"⟩
abbrev cX3_addStrike : ByteArray := prog_5_method_3_code
def yX3_addStrike : MethodName := ⟨RX3, "addStrike", "(I)I"⟩
abbrev cX3_write : ByteArray := prog_5_method_4_code
def yX3_write : MethodName := ⟨RX3, "write", "(LThreeDays$Act;)V"⟩
abbrev cX3_actAt : ByteArray := prog_5_method_5_code
def yX3_actAt : MethodName := ⟨RX3, "actAt", "(I)LThreeDays$Act;"⟩
abbrev cX3_riderOf : ByteArray := prog_5_method_6_code
def yX3_riderOf : MethodName := ⟨RX3, "riderOf", "(I)I"⟩
abbrev cX3_oldestOf : ByteArray := prog_5_method_7_code
def yX3_oldestOf : MethodName := ⟨RX3, "oldestOf", "(I)LThreeDays$Act;"⟩
def RX4 : String := "ThreeDays$Reader"
def TX4 : u_T := fun k => match k with
  | 0 => ("ThreeDays$Reader", "outWord", "J", true)
  | 1 => ("ThreeDays$Reader", "ifWord", "J", true)
  | 2 => ("ThreeDays$Reader", "tieWord", "J", true)
  | 3 => ("ThreeDays$Reader", "maxWord", "J", true)
  | 4 => ("ThreeDays$Reader", "minWord", "J", true)
  | 5 => ("ThreeDays$Reader", "totalWord", "J", true)
  | 6 => ("ThreeDays$Reader", "names", "[J", true)
  | 7 => ("ThreeDays$Reader", "tape", "LThreeDays$Tape;", true)
  | 8 => ("ThreeDays$Reader", "rules", "LThreeDays$Rules;", false)
  | 9 => ("ThreeDays$Reader", "at", "I", false)
  | 10 => ("ThreeDays$Reader", "token", "I", false)
  | 11 => ("ThreeDays$Reader", "tokenAt", "I", false)
  | 12 => ("ThreeDays$Reader", "tokenValue", "J", false)
  | 13 => ("ThreeDays$Reader", "found", "I", false)
  | _ => ("ThreeDays$Reader", "foundAt", "I", false)
def tyX4 : Nat → FieldType := fun k => match k with
  | 0 => .long
  | 1 => .long
  | 2 => .long
  | 3 => .long
  | 4 => .long
  | 5 => .long
  | 6 => .array .long
  | 7 => .object "ThreeDays$Tape"
  | 8 => .object "ThreeDays$Rules"
  | 9 => .int
  | 10 => .int
  | 11 => .int
  | 12 => .long
  | 13 => .int
  | _ => .int
theorem nmX4 : ∀ a, a < 15 → ∀ b, b < 15 → a ≠ b → (TX4 a).2.1 ≠ (TX4 b).2.1 := by decide +kernel
theorem tyX4_ok : ∀ k, k < 15 → parseFieldDescriptor (TX4 k).2.2.1 = some (tyX4 k) := by decide +kernel
abbrev cX4_init : ByteArray := prog_6_method_1_code
def yX4_init : MethodName := ⟨RX4, "<init>", "(LThreeDays$Tape;)V"⟩
abbrev cX4_packed : ByteArray := prog_6_method_2_code
def yX4_packed : MethodName := ⟨RX4, "packed", "(Ljava/lang/String;)J"⟩
abbrev cX4_withLetter : ByteArray := prog_6_method_3_code
def yX4_withLetter : MethodName := ⟨RX4, "withLetter", "(JI)J"⟩
abbrev cX4_read : ByteArray := prog_6_method_4_code
def yX4_read : MethodName := ⟨RX4, "read", "(LThreeDays$Rules;)Z"⟩
abbrev cX4_readTie : ByteArray := prog_6_method_5_code
def yX4_readTie : MethodName := ⟨RX4, "readTie", "()V"⟩
abbrev cX4_readOutIf : ByteArray := prog_6_method_6_code
def yX4_readOutIf : MethodName := ⟨RX4, "readOutIf", "()V"⟩
abbrev cX4_comparison : ByteArray := prog_6_method_7_code
def yX4_comparison : MethodName := ⟨RX4, "comparison", "()I"⟩
abbrev cX4_readGiving : ByteArray := prog_6_method_8_code
def yX4_readGiving : MethodName := ⟨RX4, "readGiving", "(I)V"⟩
abbrev cX4_readSum : ByteArray := prog_6_method_9_code
def yX4_readSum : MethodName := ⟨RX4, "readSum", "(I)V"⟩
abbrev cX4_readProduct : ByteArray := prog_6_method_10_code
def yX4_readProduct : MethodName := ⟨RX4, "readProduct", "(I)V"⟩
abbrev cX4_readFactor : ByteArray := prog_6_method_11_code
def yX4_readFactor : MethodName := ⟨RX4, "readFactor", "(I)V"⟩
abbrev cX4_pairStep : ByteArray := prog_6_method_12_code
def yX4_pairStep : MethodName := ⟨RX4, "pairStep", "()I"⟩
abbrev cX4_readDivisor : ByteArray := prog_6_method_13_code
def yX4_readDivisor : MethodName := ⟨RX4, "readDivisor", "()V"⟩
abbrev cX4_takeNumber : ByteArray := prog_6_method_14_code
def yX4_takeNumber : MethodName := ⟨RX4, "takeNumber", "()I"⟩
abbrev cX4_takeName : ByteArray := prog_6_method_15_code
def yX4_takeName : MethodName := ⟨RX4, "takeName", "(Z)I"⟩
abbrev cX4_isKept : ByteArray := prog_6_method_16_code
def yX4_isKept : MethodName := ⟨RX4, "isKept", "(J)Z"⟩
abbrev cX4_slotOf : ByteArray := prog_6_method_17_code
def yX4_slotOf : MethodName := ⟨RX4, "slotOf", "(J)I"⟩
abbrev cX4_expect : ByteArray := prog_6_method_18_code
def yX4_expect : MethodName := ⟨RX4, "expect", "(I)V"⟩
abbrev cX4_fail : ByteArray := prog_6_method_19_code
def yX4_fail : MethodName := ⟨RX4, "fail", "(II)V"⟩
abbrev cX4_advance : ByteArray := prog_6_method_20_code
def yX4_advance : MethodName := ⟨RX4, "advance", "()V"⟩
def RX5 : String := "ThreeDays$Riders"
def TX5 : u_T := fun k => match k with
  | 0 => ("ThreeDays$Riders", "teams", "[I", true)
  | 1 => ("ThreeDays$Riders", "sizes", "[I", true)
  | _ => ("ThreeDays$Riders", "number", "I", false)
def tyX5 : Nat → FieldType := fun k => match k with
  | 0 => .array .int
  | 1 => .array .int
  | _ => .int
theorem nmX5 : ∀ a, a < 3 → ∀ b, b < 3 → a ≠ b → (TX5 a).2.1 ≠ (TX5 b).2.1 := by decide +kernel
theorem tyX5_ok : ∀ k, k < 3 → parseFieldDescriptor (TX5 k).2.2.1 = some (tyX5 k) := by decide +kernel
abbrev cX5_init : ByteArray := prog_7_method_1_code
def yX5_init : MethodName := ⟨RX5, "<init>", "()V"⟩
abbrev cX5_add : ByteArray := prog_7_method_2_code
def yX5_add : MethodName := ⟨RX5, "add", "(I)I"⟩
abbrev cX5_has : ByteArray := prog_7_method_3_code
def yX5_has : MethodName := ⟨RX5, "has", "(I)Z"⟩
abbrev cX5_teamOf : ByteArray := prog_7_method_4_code
def yX5_teamOf : MethodName := ⟨RX5, "teamOf", "(I)I"⟩
abbrev cX5_sizeOfTeam : ByteArray := prog_7_method_5_code
def yX5_sizeOfTeam : MethodName := ⟨RX5, "sizeOfTeam", "(I)I"⟩
def RX6 : String := "ThreeDays$Rules"
def TX6 : u_T := fun k => match k with
  | 0 => ("ThreeDays$Rules", "steps", "[I", true)
  | 1 => ("ThreeDays$Rules", "operands", "[I", true)
  | 2 => ("ThreeDays$Rules", "ends", "[I", true)
  | 3 => ("ThreeDays$Rules", "forms", "[I", true)
  | 4 => ("ThreeDays$Rules", "stack", "[J", true)
  | 5 => ("ThreeDays$Rules", "top", "I", false)
  | 6 => ("ThreeDays$Rules", "size", "I", false)
  | 7 => ("ThreeDays$Rules", "totalSlot", "I", false)
  | _ => ("ThreeDays$Rules", "statements", "I", false)
def tyX6 : Nat → FieldType := fun k => match k with
  | 0 => .array .int
  | 1 => .array .int
  | 2 => .array .int
  | 3 => .array .int
  | 4 => .array .long
  | 5 => .int
  | 6 => .int
  | 7 => .int
  | _ => .int
theorem nmX6 : ∀ a, a < 9 → ∀ b, b < 9 → a ≠ b → (TX6 a).2.1 ≠ (TX6 b).2.1 := by decide +kernel
theorem tyX6_ok : ∀ k, k < 9 → parseFieldDescriptor (TX6 k).2.2.1 = some (tyX6 k) := by decide +kernel
abbrev cX6_init : ByteArray := prog_8_method_1_code
def yX6_init : MethodName := ⟨RX6, "<init>", "()V"⟩
abbrev cX6_clear : ByteArray := prog_8_method_2_code
def yX6_clear : MethodName := ⟨RX6, "clear", "()V"⟩
abbrev cX6_addStep : ByteArray := prog_8_method_3_code
def yX6_addStep : MethodName := ⟨RX6, "addStep", "(II)V"⟩
abbrev cX6_closeStatement : ByteArray := prog_8_method_4_code
def yX6_closeStatement : MethodName := ⟨RX6, "closeStatement", "(I)V"⟩
abbrev cX6_setTotal : ByteArray := prog_8_method_5_code
def yX6_setTotal : MethodName := ⟨RX6, "setTotal", "(I)V"⟩
abbrev cX6_hasTotal : ByteArray := prog_8_method_6_code
def yX6_hasTotal : MethodName := ⟨RX6, "hasTotal", "()Z"⟩
abbrev cX6_apply : ByteArray := prog_8_method_7_code
def yX6_apply : MethodName := ⟨RX6, "apply", "(LThreeDays$Sheet;)V"⟩
abbrev cX6_compare : ByteArray := prog_8_method_8_code
def yX6_compare : MethodName := ⟨RX6, "compare", "(LThreeDays$Sheet;LThreeDays$Sheet;)I"⟩
abbrev cX6_orderOf : ByteArray := prog_8_method_9_code
def yX6_orderOf : MethodName := ⟨RX6, "orderOf", "(JJ)I"⟩
abbrev cX6_run : ByteArray := prog_8_method_10_code
def yX6_run : MethodName := ⟨RX6, "run", "(IILThreeDays$Sheet;)J"⟩
abbrev cX6_doStep : ByteArray := prog_8_method_11_code
def yX6_doStep : MethodName := ⟨RX6, "doStep", "(IILThreeDays$Sheet;)V"⟩
abbrev cX6_push : ByteArray := prog_8_method_12_code
def yX6_push : MethodName := ⟨RX6, "push", "(J)V"⟩
abbrev cX6_pop : ByteArray := prog_8_method_13_code
def yX6_pop : MethodName := ⟨RX6, "pop", "()J"⟩
abbrev cX6_join : ByteArray := prog_8_method_14_code
def yX6_join : MethodName := ⟨RX6, "join", "(IJJ)J"⟩
abbrev cX6_limited : ByteArray := prog_8_method_15_code
def yX6_limited : MethodName := ⟨RX6, "limited", "(J)J"⟩
abbrev cX6_product : ByteArray := prog_8_method_16_code
def yX6_product : MethodName := ⟨RX6, "product", "(JJ)J"⟩
def RX7 : String := "ThreeDays$Sheet"
def TX7 : u_T := fun k => match k with
  | 0 => ("ThreeDays$Sheet", "values", "[J", true)
  | 1 => ("ThreeDays$Sheet", "isStale", "Z", false)
  | 2 => ("ThreeDays$Sheet", "hasStart", "Z", false)
  | 3 => ("ThreeDays$Sheet", "hasFinish", "Z", false)
  | 4 => ("ThreeDays$Sheet", "start", "I", false)
  | 5 => ("ThreeDays$Sheet", "finish", "I", false)
  | 6 => ("ThreeDays$Sheet", "time", "I", false)
  | 7 => ("ThreeDays$Sheet", "isOff", "Z", false)
  | _ => ("ThreeDays$Sheet", "total", "J", false)
def tyX7 : Nat → FieldType := fun k => match k with
  | 0 => .array .long
  | 1 => .boolean
  | 2 => .boolean
  | 3 => .boolean
  | 4 => .int
  | 5 => .int
  | 6 => .int
  | 7 => .boolean
  | _ => .long
theorem nmX7 : ∀ a, a < 9 → ∀ b, b < 9 → a ≠ b → (TX7 a).2.1 ≠ (TX7 b).2.1 := by decide +kernel
theorem tyX7_ok : ∀ k, k < 9 → parseFieldDescriptor (TX7 k).2.2.1 = some (tyX7 k) := by decide +kernel
abbrev cX7_init : ByteArray := prog_9_method_1_code
def yX7_init : MethodName := ⟨RX7, "<init>", "()V"⟩
abbrev cX7_clear : ByteArray := prog_9_method_2_code
def yX7_clear : MethodName := ⟨RX7, "clear", "()V"⟩
abbrev cX7_countOf : ByteArray := prog_9_method_3_code
def yX7_countOf : MethodName := ⟨RX7, "countOf", "(I)I"⟩
abbrev cX7_valueAt : ByteArray := prog_9_method_4_code
def yX7_valueAt : MethodName := ⟨RX7, "valueAt", "(I)J"⟩
def RX8 : String := "ThreeDays$Tally"
def TX8 : u_T := fun k => match k with
  | 0 => ("ThreeDays$Tally", "course", "LThreeDays$Course;", true)
  | 1 => ("ThreeDays$Tally", "log", "LThreeDays$Log;", true)
  | 2 => ("ThreeDays$Tally", "seen", "[I", true)
  | _ => ("ThreeDays$Tally", "held", "I", false)
def tyX8 : Nat → FieldType := fun k => match k with
  | 0 => .object "ThreeDays$Course"
  | 1 => .object "ThreeDays$Log"
  | 2 => .array .int
  | _ => .int
theorem nmX8 : ∀ a, a < 4 → ∀ b, b < 4 → a ≠ b → (TX8 a).2.1 ≠ (TX8 b).2.1 := by decide +kernel
theorem tyX8_ok : ∀ k, k < 4 → parseFieldDescriptor (TX8 k).2.2.1 = some (tyX8 k) := by decide +kernel
abbrev cX8_init : ByteArray := prog_10_method_1_code
def yX8_init : MethodName := ⟨RX8, "<init>", "(LThreeDays$Course;LThreeDays$Log;)V"⟩
abbrev cX8_fill : ByteArray := prog_10_method_2_code
def yX8_fill : MethodName := ⟨RX8, "fill", "(LThreeDays$Sheet;II)V"⟩
abbrev cX8_take : ByteArray := prog_10_method_3_code
def yX8_take : MethodName := ⟨RX8, "take", "(LThreeDays$Act;LThreeDays$Sheet;)V"⟩
abbrev cX8_see : ByteArray := prog_10_method_4_code
def yX8_see : MethodName := ⟨RX8, "see", "(II)V"⟩
abbrev cX8_timesSeen : ByteArray := prog_10_method_5_code
def yX8_timesSeen : MethodName := ⟨RX8, "timesSeen", "(II)I"⟩
abbrev cX8_seenAt : ByteArray := prog_10_method_6_code
def yX8_seenAt : MethodName := ⟨RX8, "seenAt", "(II)I"⟩
abbrev cX8_takeTime : ByteArray := prog_10_method_7_code
def yX8_takeTime : MethodName := ⟨RX8, "takeTime", "(LThreeDays$Sheet;)V"⟩
abbrev cX8_takeFence : ByteArray := prog_10_method_8_code
def yX8_takeFence : MethodName := ⟨RX8, "takeFence", "(I[J)V"⟩
def RX9 : String := "ThreeDays$Tape"
def TX9 : u_T := fun k => match k with
  | 0 => ("ThreeDays$Tape", "bytes", "[I", true)
  | _ => ("ThreeDays$Tape", "length", "I", false)
def tyX9 : Nat → FieldType := fun k => match k with
  | 0 => .array .int
  | _ => .int
theorem nmX9 : ∀ a, a < 2 → ∀ b, b < 2 → a ≠ b → (TX9 a).2.1 ≠ (TX9 b).2.1 := by decide +kernel
theorem tyX9_ok : ∀ k, k < 2 → parseFieldDescriptor (TX9 k).2.2.1 = some (tyX9 k) := by decide +kernel
abbrev cX9_init : ByteArray := prog_11_method_1_code
def yX9_init : MethodName := ⟨RX9, "<init>", "()V"⟩
abbrev cX9_hasRoom : ByteArray := prog_11_method_2_code
def yX9_hasRoom : MethodName := ⟨RX9, "hasRoom", "()Z"⟩
abbrev cX9_append : ByteArray := prog_11_method_3_code
def yX9_append : MethodName := ⟨RX9, "append", "(I)V"⟩
abbrev cX9_cut : ByteArray := prog_11_method_4_code
def yX9_cut : MethodName := ⟨RX9, "cut", "(I)Z"⟩
def RX10 : String := "ThreeDays"
def TX10 : u_T := fun k => match k with
  | 0 => ("ThreeDays", "tape", "LThreeDays$Tape;", true)
  | 1 => ("ThreeDays", "riders", "LThreeDays$Riders;", true)
  | 2 => ("ThreeDays", "course", "LThreeDays$Course;", true)
  | 3 => ("ThreeDays", "log", "LThreeDays$Log;", true)
  | 4 => ("ThreeDays", "reader", "LThreeDays$Reader;", true)
  | 5 => ("ThreeDays", "board", "LThreeDays$Board;", true)
  | 6 => ("ThreeDays", "inForce", "LThreeDays$Rules;", false)
  | 7 => ("ThreeDays", "spare", "LThreeDays$Rules;", false)
  | _ => ("ThreeDays", "askedAct", "I", false)
def tyX10 : Nat → FieldType := fun k => match k with
  | 0 => .object "ThreeDays$Tape"
  | 1 => .object "ThreeDays$Riders"
  | 2 => .object "ThreeDays$Course"
  | 3 => .object "ThreeDays$Log"
  | 4 => .object "ThreeDays$Reader"
  | 5 => .object "ThreeDays$Board"
  | 6 => .object "ThreeDays$Rules"
  | 7 => .object "ThreeDays$Rules"
  | _ => .int
theorem nmX10 : ∀ a, a < 9 → ∀ b, b < 9 → a ≠ b → (TX10 a).2.1 ≠ (TX10 b).2.1 := by decide +kernel
theorem tyX10_ok : ∀ k, k < 9 → parseFieldDescriptor (TX10 k).2.2.1 = some (tyX10 k) := by decide +kernel
abbrev cX10_init : ByteArray := prog_1_method_1_code
def yX10_init : MethodName := ⟨RX10, "<init>", "()V"⟩
abbrev cX10_feed : ByteArray := prog_1_method_2_code
def yX10_feed : MethodName := ⟨RX10, "feed", "(IIIII)I"⟩
abbrev cX10_end : ByteArray := prog_1_method_3_code
def yX10_end : MethodName := ⟨RX10, "end", "(I)Z"⟩
abbrev cX10_rider : ByteArray := prog_1_method_4_code
def yX10_rider : MethodName := ⟨RX10, "rider", "(I)I"⟩
abbrev cX10_fence : ByteArray := prog_1_method_5_code
def yX10_fence : MethodName := ⟨RX10, "fence", "(I)I"⟩
abbrev cX10_course : ByteArray := prog_1_method_6_code
def yX10_course : MethodName := ⟨RX10, "course", "(II)I"⟩
abbrev cX10_clock : ByteArray := prog_1_method_7_code
def yX10_clock : MethodName := ⟨RX10, "clock", "(II)Z"⟩
abbrev cX10_out : ByteArray := prog_1_method_8_code
def yX10_out : MethodName := ⟨RX10, "out", "(II)Z"⟩
abbrev cX10_report : ByteArray := prog_1_method_9_code
def yX10_report : MethodName := ⟨RX10, "report", "(IIIII)I"⟩
abbrev cX10_strike : ByteArray := prog_1_method_10_code
def yX10_strike : MethodName := ⟨RX10, "strike", "(I)I"⟩
abbrev cX10_as : ByteArray := prog_1_method_11_code
def yX10_as : MethodName := ⟨RX10, "as", "(I)Z"⟩
abbrev cX10_rules : ByteArray := prog_1_method_12_code
def yX10_rules : MethodName := ⟨RX10, "rules", "()I"⟩
abbrev cX10_fault : ByteArray := prog_1_method_13_code
def yX10_fault : MethodName := ⟨RX10, "fault", "(I)I"⟩
abbrev cX10_count : ByteArray := prog_1_method_14_code
def yX10_count : MethodName := ⟨RX10, "count", "(II)I"⟩
abbrev cX10_given : ByteArray := prog_1_method_15_code
def yX10_given : MethodName := ⟨RX10, "given", "(II)J"⟩
abbrev cX10_total : ByteArray := prog_1_method_16_code
def yX10_total : MethodName := ⟨RX10, "total", "(I)J"⟩
abbrev cX10_isOut : ByteArray := prog_1_method_17_code
def yX10_isOut : MethodName := ⟨RX10, "isOut", "(I)I"⟩
abbrev cX10_against : ByteArray := prog_1_method_18_code
def yX10_against : MethodName := ⟨RX10, "against", "(II)I"⟩
abbrev cX10_place : ByteArray := prog_1_method_19_code
def yX10_place : MethodName := ⟨RX10, "place", "(I)I"⟩
abbrev cX10_team : ByteArray := prog_1_method_20_code
def yX10_team : MethodName := ⟨RX10, "team", "(I)J"⟩
abbrev cX10_teamPlace : ByteArray := prog_1_method_21_code
def yX10_teamPlace : MethodName := ⟨RX10, "teamPlace", "(I)I"⟩
abbrev cX10_ring : ByteArray := prog_1_method_22_code
def yX10_ring : MethodName := ⟨RX10, "ring", "(I)I"⟩
abbrev cX10_since : ByteArray := prog_1_method_23_code
def yX10_since : MethodName := ⟨RX10, "since", "(I)I"⟩
abbrev cX10_all : ByteArray := prog_1_method_24_code
def yX10_all : MethodName := ⟨RX10, "all", "(I)I"⟩
abbrev cX10_toldAct : ByteArray := prog_1_method_25_code
def yX10_toldAct : MethodName := ⟨RX10, "toldAct", "()I"⟩
abbrev cX10_canBe : ByteArray := prog_1_method_26_code
def yX10_canBe : MethodName := ⟨RX10, "canBe", "(IIII)Z"⟩
abbrev cX10_isWithin : ByteArray := prog_1_method_27_code
def yX10_isWithin : MethodName := ⟨RX10, "isWithin", "(III)Z"⟩
def RX11 : String := "ThreeDaysModel"
def TX11 : u_T := fun k => match k with
  | 0 => ("ThreeDaysModel", "tape", "[I", true)
  | 1 => ("ThreeDaysModel", "taped", "I", false)
  | 2 => ("ThreeDaysModel", "riders", "I", false)
  | 3 => ("ThreeDaysModel", "teams", "[I", true)
  | 4 => ("ThreeDaysModel", "fences", "I", false)
  | 5 => ("ThreeDaysModel", "metres", "[I", true)
  | 6 => ("ThreeDaysModel", "outs", "[I", true)
  | 7 => ("ThreeDaysModel", "clocks", "[I", true)
  | 8 => ("ThreeDaysModel", "endMetres", "I", false)
  | 9 => ("ThreeDaysModel", "speed", "I", false)
  | 10 => ("ThreeDaysModel", "acts", "I", false)
  | 11 => ("ThreeDaysModel", "who", "[I", true)
  | 12 => ("ThreeDaysModel", "kinds", "[I", true)
  | 13 => ("ThreeDaysModel", "where", "[I", true)
  | 14 => ("ThreeDaysModel", "as", "[I", true)
  | 15 => ("ThreeDaysModel", "bs", "[I", true)
  | 16 => ("ThreeDaysModel", "struck", "[I", true)
  | 17 => ("ThreeDaysModel", "told", "I", false)
  | 18 => ("ThreeDaysModel", "tally", "[I", true)
  | 19 => ("ThreeDaysModel", "atFence", "[I", true)
  | 20 => ("ThreeDaysModel", "statements", "I", false)
  | 21 => ("ThreeDaysModel", "sorts", "[I", true)
  | 22 => ("ThreeDaysModel", "begins", "[I", true)
  | 23 => ("ThreeDaysModel", "signs", "[I", true)
  | 24 => ("ThreeDaysModel", "total", "I", false)
  | 25 => ("ThreeDaysModel", "at", "I", false)
  | 26 => ("ThreeDaysModel", "size", "I", false)
  | 27 => ("ThreeDaysModel", "faultKind", "I", false)
  | 28 => ("ThreeDaysModel", "faultPlace", "I", false)
  | 29 => ("ThreeDaysModel", "newMany", "I", false)
  | 30 => ("ThreeDaysModel", "made", "I", false)
  | 31 => ("ThreeDaysModel", "newTotal", "I", false)
  | 32 => ("ThreeDaysModel", "newSorts", "[I", true)
  | 33 => ("ThreeDaysModel", "newBegins", "[I", true)
  | 34 => ("ThreeDaysModel", "newSigns", "[I", true)
  | 35 => ("ThreeDaysModel", "names", "[I", true)
  | 36 => ("ThreeDaysModel", "nameSizes", "[I", true)
  | 37 => ("ThreeDaysModel", "pile", "[I", true)
  | 38 => ("ThreeDaysModel", "comma", "[Z", true)
  | 39 => ("ThreeDaysModel", "piled", "I", false)
  | 40 => ("ThreeDaysModel", "open", "I", false)
  | 41 => ("ThreeDaysModel", "heap", "[J", true)
  | 42 => ("ThreeDaysModel", "given", "[J", true)
  | _ => ("ThreeDaysModel", "isOut", "[Z", true)
def tyX11 : Nat → FieldType := fun k => match k with
  | 0 => .array .int
  | 1 => .int
  | 2 => .int
  | 3 => .array .int
  | 4 => .int
  | 5 => .array .int
  | 6 => .array .int
  | 7 => .array .int
  | 8 => .int
  | 9 => .int
  | 10 => .int
  | 11 => .array .int
  | 12 => .array .int
  | 13 => .array .int
  | 14 => .array .int
  | 15 => .array .int
  | 16 => .array .int
  | 17 => .int
  | 18 => .array .int
  | 19 => .array .int
  | 20 => .int
  | 21 => .array .int
  | 22 => .array .int
  | 23 => .array .int
  | 24 => .int
  | 25 => .int
  | 26 => .int
  | 27 => .int
  | 28 => .int
  | 29 => .int
  | 30 => .int
  | 31 => .int
  | 32 => .array .int
  | 33 => .array .int
  | 34 => .array .int
  | 35 => .array .int
  | 36 => .array .int
  | 37 => .array .int
  | 38 => .array .boolean
  | 39 => .int
  | 40 => .int
  | 41 => .array .long
  | 42 => .array .long
  | _ => .array .boolean
theorem nmX11 : ∀ a, a < 44 → ∀ b, b < 44 → a ≠ b → (TX11 a).2.1 ≠ (TX11 b).2.1 := by decide +kernel
theorem tyX11_ok : ∀ k, k < 44 → parseFieldDescriptor (TX11 k).2.2.1 = some (tyX11 k) := by decide +kernel
abbrev cX11_init : ByteArray := prog_13_method_1_code
def yX11_init : MethodName := ⟨RX11, "<init>", "()V"⟩
abbrev cX11_is : ByteArray := prog_13_method_2_code
def yX11_is : MethodName := ⟨RX11, "is", "(III)Z"⟩
abbrev cX11_put : ByteArray := prog_13_method_3_code
def yX11_put : MethodName := ⟨RX11, "put", "(I)V"⟩
abbrev cX11_feed : ByteArray := prog_13_method_4_code
def yX11_feed : MethodName := ⟨RX11, "feed", "(IIIII)I"⟩
abbrev cX11_end : ByteArray := prog_13_method_5_code
def yX11_end : MethodName := ⟨RX11, "end", "(I)Z"⟩
abbrev cX11_rider : ByteArray := prog_13_method_6_code
def yX11_rider : MethodName := ⟨RX11, "rider", "(I)I"⟩
abbrev cX11_fence : ByteArray := prog_13_method_7_code
def yX11_fence : MethodName := ⟨RX11, "fence", "(I)I"⟩
abbrev cX11_optimum : ByteArray := prog_13_method_8_code
def yX11_optimum : MethodName := ⟨RX11, "optimum", "()I"⟩
abbrev cX11_course : ByteArray := prog_13_method_9_code
def yX11_course : MethodName := ⟨RX11, "course", "(II)I"⟩
abbrev cX11_clock : ByteArray := prog_13_method_10_code
def yX11_clock : MethodName := ⟨RX11, "clock", "(II)Z"⟩
abbrev cX11_out : ByteArray := prog_13_method_11_code
def yX11_out : MethodName := ⟨RX11, "out", "(II)Z"⟩
abbrev cX11_isSecond : ByteArray := prog_13_method_12_code
def yX11_isSecond : MethodName := ⟨RX11, "isSecond", "(I)Z"⟩
abbrev cX11_may : ByteArray := prog_13_method_13_code
def yX11_may : MethodName := ⟨RX11, "may", "(IIII)Z"⟩
abbrev cX11_report : ByteArray := prog_13_method_14_code
def yX11_report : MethodName := ⟨RX11, "report", "(IIIII)I"⟩
abbrev cX11_strike : ByteArray := prog_13_method_15_code
def yX11_strike : MethodName := ⟨RX11, "strike", "(I)I"⟩
abbrev cX11_as : ByteArray := prog_13_method_16_code
def yX11_as : MethodName := ⟨RX11, "as", "(I)Z"⟩
abbrev cX11_known : ByteArray := prog_13_method_17_code
def yX11_known : MethodName := ⟨RX11, "known", "()I"⟩
abbrev cX11_stands : ByteArray := prog_13_method_18_code
def yX11_stands : MethodName := ⟨RX11, "stands", "(III)Z"⟩
abbrev cX11_tallies : ByteArray := prog_13_method_19_code
def yX11_tallies : MethodName := ⟨RX11, "tallies", "(II)V"⟩
abbrev cX11_fence_ : ByteArray := prog_13_method_20_code
def yX11_fence_ : MethodName := ⟨RX11, "fence", "(IIIII)V"⟩
abbrev cX11_isRider : ByteArray := prog_13_method_21_code
def yX11_isRider : MethodName := ⟨RX11, "isRider", "(I)Z"⟩
abbrev cX11_count : ByteArray := prog_13_method_22_code
def yX11_count : MethodName := ⟨RX11, "count", "(II)I"⟩
abbrev cX11_blame : ByteArray := prog_13_method_23_code
def yX11_blame : MethodName := ⟨RX11, "blame", "(II)V"⟩
abbrev cX11_isLetter : ByteArray := prog_13_method_24_code
def yX11_isLetter : MethodName := ⟨RX11, "isLetter", "(I)Z"⟩
abbrev cX11_isDigit : ByteArray := prog_13_method_25_code
def yX11_isDigit : MethodName := ⟨RX11, "isDigit", "(I)Z"⟩
abbrev cX11_here : ByteArray := prog_13_method_26_code
def yX11_here : MethodName := ⟨RX11, "here", "()I"⟩
abbrev cX11_must : ByteArray := prog_13_method_27_code
def yX11_must : MethodName := ⟨RX11, "must", "(I)V"⟩
abbrev cX11_wordSize : ByteArray := prog_13_method_28_code
def yX11_wordSize : MethodName := ⟨RX11, "wordSize", "()I"⟩
abbrev cX11_spells : ByteArray := prog_13_method_29_code
def yX11_spells : MethodName := ⟨RX11, "spells", "(IIJI)Z"⟩
abbrev cX11_isOut : ByteArray := prog_13_method_30_code
def yX11_isOut : MethodName := ⟨RX11, "isOut", "(II)Z"⟩
abbrev cX11_isIf : ByteArray := prog_13_method_31_code
def yX11_isIf : MethodName := ⟨RX11, "isIf", "(II)Z"⟩
abbrev cX11_isTie : ByteArray := prog_13_method_32_code
def yX11_isTie : MethodName := ⟨RX11, "isTie", "(II)Z"⟩
abbrev cX11_isMax : ByteArray := prog_13_method_33_code
def yX11_isMax : MethodName := ⟨RX11, "isMax", "(II)Z"⟩
abbrev cX11_isMin : ByteArray := prog_13_method_34_code
def yX11_isMin : MethodName := ⟨RX11, "isMin", "(II)Z"⟩
abbrev cX11_whichCount : ByteArray := prog_13_method_35_code
def yX11_whichCount : MethodName := ⟨RX11, "whichCount", "(II)I"⟩
abbrev cX11_whichGiven : ByteArray := prog_13_method_36_code
def yX11_whichGiven : MethodName := ⟨RX11, "whichGiven", "(II)I"⟩
abbrev cX11_add : ByteArray := prog_13_method_37_code
def yX11_add : MethodName := ⟨RX11, "add", "(II)V"⟩
abbrev cX11_digits : ByteArray := prog_13_method_38_code
def yX11_digits : MethodName := ⟨RX11, "digits", "()I"⟩
abbrev cX11_joins : ByteArray := prog_13_method_39_code
def yX11_joins : MethodName := ⟨RX11, "joins", "(Z)V"⟩
abbrev cX11_opens : ByteArray := prog_13_method_40_code
def yX11_opens : MethodName := ⟨RX11, "opens", "(I)V"⟩
abbrev cX11_operand : ByteArray := prog_13_method_41_code
def yX11_operand : MethodName := ⟨RX11, "operand", "()Z"⟩
abbrev cX11_closes : ByteArray := prog_13_method_42_code
def yX11_closes : MethodName := ⟨RX11, "closes", "()V"⟩
abbrev cX11_commas : ByteArray := prog_13_method_43_code
def yX11_commas : MethodName := ⟨RX11, "commas", "()V"⟩
abbrev cX11_sum : ByteArray := prog_13_method_44_code
def yX11_sum : MethodName := ⟨RX11, "sum", "()V"⟩
abbrev cX11_statement : ByteArray := prog_13_method_45_code
def yX11_statement : MethodName := ⟨RX11, "statement", "()V"⟩
abbrev cX11_rules : ByteArray := prog_13_method_46_code
def yX11_rules : MethodName := ⟨RX11, "rules", "()I"⟩
abbrev cX11_fault : ByteArray := prog_13_method_47_code
def yX11_fault : MethodName := ⟨RX11, "fault", "(I)I"⟩
abbrev cX11_held : ByteArray := prog_13_method_48_code
def yX11_held : MethodName := ⟨RX11, "held", "(J)J"⟩
abbrev cX11_times : ByteArray := prog_13_method_49_code
def yX11_times : MethodName := ⟨RX11, "times", "(JJ)J"⟩
abbrev cX11_over : ByteArray := prog_13_method_50_code
def yX11_over : MethodName := ⟨RX11, "over", "(JJ)J"⟩
abbrev cX11_works : ByteArray := prog_13_method_51_code
def yX11_works : MethodName := ⟨RX11, "works", "(II)J"⟩
abbrev cX11_two : ByteArray := prog_13_method_52_code
def yX11_two : MethodName := ⟨RX11, "two", "(IJJ)J"⟩
abbrev cX11_worksAll : ByteArray := prog_13_method_53_code
def yX11_worksAll : MethodName := ⟨RX11, "worksAll", "(II)V"⟩
abbrev cX11_reckons : ByteArray := prog_13_method_54_code
def yX11_reckons : MethodName := ⟨RX11, "reckons", "(I)V"⟩
abbrev cX11_given : ByteArray := prog_13_method_55_code
def yX11_given : MethodName := ⟨RX11, "given", "(II)J"⟩
abbrev cX11_totalOf : ByteArray := prog_13_method_56_code
def yX11_totalOf : MethodName := ⟨RX11, "totalOf", "(I)J"⟩
abbrev cX11_total : ByteArray := prog_13_method_57_code
def yX11_total : MethodName := ⟨RX11, "total", "(I)J"⟩
abbrev cX11_isOut_ : ByteArray := prog_13_method_58_code
def yX11_isOut_ : MethodName := ⟨RX11, "isOut", "(I)I"⟩
abbrev cX11_stand : ByteArray := prog_13_method_59_code
def yX11_stand : MethodName := ⟨RX11, "stand", "(II)I"⟩
abbrev cX11_against : ByteArray := prog_13_method_60_code
def yX11_against : MethodName := ⟨RX11, "against", "(II)I"⟩
abbrev cX11_placeOf : ByteArray := prog_13_method_61_code
def yX11_placeOf : MethodName := ⟨RX11, "placeOf", "(I)I"⟩
abbrev cX11_place : ByteArray := prog_13_method_62_code
def yX11_place : MethodName := ⟨RX11, "place", "(I)I"⟩
abbrev cX11_hasRiders : ByteArray := prog_13_method_63_code
def yX11_hasRiders : MethodName := ⟨RX11, "hasRiders", "(I)Z"⟩
abbrev cX11_least : ByteArray := prog_13_method_64_code
def yX11_least : MethodName := ⟨RX11, "least", "(II)J"⟩
abbrev cX11_teamOf : ByteArray := prog_13_method_65_code
def yX11_teamOf : MethodName := ⟨RX11, "teamOf", "(I)J"⟩
abbrev cX11_team : ByteArray := prog_13_method_66_code
def yX11_team : MethodName := ⟨RX11, "team", "(I)J"⟩
abbrev cX11_teamPlace : ByteArray := prog_13_method_67_code
def yX11_teamPlace : MethodName := ⟨RX11, "teamPlace", "(I)I"⟩
abbrev cX11_ring : ByteArray := prog_13_method_68_code
def yX11_ring : MethodName := ⟨RX11, "ring", "(I)I"⟩
abbrev cX11_since : ByteArray := prog_13_method_69_code
def yX11_since : MethodName := ⟨RX11, "since", "(I)I"⟩
abbrev cX11_all : ByteArray := prog_13_method_70_code
def yX11_all : MethodName := ⟨RX11, "all", "(I)I"⟩
def RJ9 : String := "java/lang/Math"
def TJ9 : u_T := fun k => match k with
  | _ => ("", "", "", false)
def tyJ9 : Nat → FieldType := fun k => match k with
  | _ => .int
abbrev cJ9_floorDiv_f86c9 : ByteArray := prog_14_method_49_code
def yJ9_floorDiv_f86c9 : MethodName := ⟨RJ9, "floorDiv", "(JJ)J"⟩
abbrev cJ9_abs_067f4 : ByteArray := prog_14_method_61_code
def yJ9_abs_067f4 : MethodName := ⟨RJ9, "abs", "(J)J"⟩
abbrev cJ9_max_7cf53 : ByteArray := prog_14_method_65_code
def yJ9_max_7cf53 : MethodName := ⟨RJ9, "max", "(II)I"⟩
abbrev cJ9_max_f86c9 : ByteArray := prog_14_method_66_code
def yJ9_max_f86c9 : MethodName := ⟨RJ9, "max", "(JJ)J"⟩
abbrev cJ9_min_7cf53 : ByteArray := prog_14_method_69_code
def yJ9_min_7cf53 : MethodName := ⟨RJ9, "min", "(II)I"⟩
abbrev cJ9_min_f86c9 : ByteArray := prog_14_method_70_code
def yJ9_min_f86c9 : MethodName := ⟨RJ9, "min", "(JJ)J"⟩
def RJ0 : String := "java/lang/String"
def TJ0 : u_T := fun k => match k with
  | _ => ("", "", "", false)
def tyJ0 : Nat → FieldType := fun k => match k with
  | _ => .int
abbrev cJ0_length_8abf5 : ByteArray := prog_15_method_54_code
def yJ0_length_8abf5 : MethodName := ⟨RJ0, "length", "()I"⟩
abbrev cJ0_charAt_5068e : ByteArray := prog_15_method_56_code
def yJ0_charAt_5068e : MethodName := ⟨RJ0, "charAt", "(I)C"⟩
abbrev cJ0_coder_7d493 : ByteArray := prog_15_method_152_code
def yJ0_coder_7d493 : MethodName := ⟨RJ0, "coder", "()B"⟩
abbrev cJ0_isLatin1_aae02 : ByteArray := prog_15_method_154_code
def yJ0_isLatin1_aae02 : MethodName := ⟨RJ0, "isLatin1", "()Z"⟩
abbrev cJ0_checkIndex_df160 : ByteArray := prog_15_method_155_code
def yJ0_checkIndex_df160 : MethodName := ⟨RJ0, "checkIndex", "(II)V"⟩
def RJ1 : String := "java/lang/StringLatin1"
def TJ1 : u_T := fun k => match k with
  | _ => ("", "", "", false)
def tyJ1 : Nat → FieldType := fun k => match k with
  | _ => .int
abbrev cJ1_charAt_3b067 : ByteArray := prog_16_method_2_code
def yJ1_charAt_3b067 : MethodName := ⟨RJ1, "charAt", "([BI)C"⟩
def RJ2 : String := "java/lang/StringUTF16"
def TJ2 : u_T := fun k => match k with
  | _ => ("", "", "", false)
def tyJ2 : Nat → FieldType := fun k => match k with
  | _ => .int
abbrev cJ2_getChar_3b067 : ByteArray := prog_17_method_5_code
def yJ2_getChar_3b067 : MethodName := ⟨RJ2, "getChar", "([BI)C"⟩
abbrev cJ2_length_9d52b : ByteArray := prog_17_method_6_code
def yJ2_length_9d52b : MethodName := ⟨RJ2, "length", "([B)I"⟩
abbrev cJ2_charAt_3b067 : ByteArray := prog_17_method_83_code
def yJ2_charAt_3b067 : MethodName := ⟨RJ2, "charAt", "([BI)C"⟩
abbrev cJ2_checkIndex_2214a : ByteArray := prog_17_method_91_code
def yJ2_checkIndex_2214a : MethodName := ⟨RJ2, "checkIndex", "(I[B)V"⟩
def RJ3 : String := "jdk/internal/util/Preconditions"
def TJ3 : u_T := fun k => match k with
  | _ => ("", "", "", false)
def tyJ3 : Nat → FieldType := fun k => match k with
  | _ => .int
abbrev cJ3_checkIndex_8e157 : ByteArray := prog_18_method_11_code
def yJ3_checkIndex_8e157 : MethodName := ⟨RJ3, "checkIndex", "(IILjava/util/function/BiFunction;)I"⟩
def RL : String := "ThreeDaysLaw"
abbrev cL_law : ByteArray := code
def yL_law : MethodName := ⟨RL, "law", "([I)Z"⟩
abbrev vwCl : List vw_C := [(RX0, TX0, 8), (RX1, TX1, 6), (RX2, TX2, 7), (RX3, TX3, 4), (RX4, TX4, 15), (RX5, TX5, 3), (RX6, TX6, 9), (RX7, TX7, 9), (RX8, TX8, 4), (RX9, TX9, 2), (RX10, TX10, 9), (RX11, TX11, 44)]
end
section
theorem dX0_init_0 : decode cX0_init 0 = .ok (.aload_n 0, 1) := by decide +kernel
theorem dX0_init_1 : decode cX0_init 1 = .ok (.invokespecial 3, 3) := by decide +kernel
theorem dX0_init_4 : decode cX0_init 4 = .ok (.aload_n 0, 1) := by decide +kernel
theorem dX0_init_5 : decode cX0_init 5 = .ok (.iconst (-1), 1) := by decide +kernel
theorem dX0_init_6 : decode cX0_init 6 = .ok (.putfield 9, 3) := by decide +kernel
theorem dX0_init_9 : decode cX0_init 9 = .ok (.aload_n 0, 1) := by decide +kernel
theorem dX0_init_10 : decode cX0_init 10 = .ok (.iload_n 1, 1) := by decide +kernel
theorem dX0_init_11 : decode cX0_init 11 = .ok (.putfield 15, 3) := by decide +kernel
theorem dX0_init_14 : decode cX0_init 14 = .ok (.aload_n 0, 1) := by decide +kernel
theorem dX0_init_15 : decode cX0_init 15 = .ok (.iload_n 2, 1) := by decide +kernel
theorem dX0_init_16 : decode cX0_init 16 = .ok (.putfield 18, 3) := by decide +kernel
theorem dX0_init_19 : decode cX0_init 19 = .ok (.aload_n 0, 1) := by decide +kernel
theorem dX0_init_20 : decode cX0_init 20 = .ok (.iload_n 3, 1) := by decide +kernel
theorem dX0_init_21 : decode cX0_init 21 = .ok (.putfield 21, 3) := by decide +kernel
theorem dX0_init_24 : decode cX0_init 24 = .ok (.aload_n 0, 1) := by decide +kernel
theorem dX0_init_25 : decode cX0_init 25 = .ok (.iload 4, 2) := by decide +kernel
theorem dX0_init_27 : decode cX0_init 27 = .ok (.putfield 24, 3) := by decide +kernel
theorem dX0_init_30 : decode cX0_init 30 = .ok (.aload_n 0, 1) := by decide +kernel
theorem dX0_init_31 : decode cX0_init 31 = .ok (.iload 5, 2) := by decide +kernel
theorem dX0_init_33 : decode cX0_init 33 = .ok (.putfield 27, 3) := by decide +kernel
theorem dX0_init_36 : decode cX0_init 36 = .ok (.return_, 1) := by decide +kernel
theorem dX0_isKnownAt_0 : decode cX0_isKnownAt 0 = .ok (.aload_n 0, 1) := by decide +kernel
theorem dX0_isKnownAt_1 : decode cX0_isKnownAt 1 = .ok (.getfield 30, 3) := by decide +kernel
theorem dX0_isKnownAt_4 : decode cX0_isKnownAt 4 = .ok (.iload_n 1, 1) := by decide +kernel
theorem dX0_isKnownAt_5 : decode cX0_isKnownAt 5 = .ok (.if_icmp .gt 23, 3) := by decide +kernel
theorem dX0_isKnownAt_8 : decode cX0_isKnownAt 8 = .ok (.aload_n 0, 1) := by decide +kernel
theorem dX0_isKnownAt_9 : decode cX0_isKnownAt 9 = .ok (.getfield 9, 3) := by decide +kernel
theorem dX0_isKnownAt_12 : decode cX0_isKnownAt 12 = .ok (.iconst (-1), 1) := by decide +kernel
theorem dX0_isKnownAt_13 : decode cX0_isKnownAt 13 = .ok (.if_icmp .eq 11, 3) := by decide +kernel
theorem dX0_isKnownAt_16 : decode cX0_isKnownAt 16 = .ok (.aload_n 0, 1) := by decide +kernel
theorem dX0_isKnownAt_17 : decode cX0_isKnownAt 17 = .ok (.getfield 9, 3) := by decide +kernel
theorem dX0_isKnownAt_20 : decode cX0_isKnownAt 20 = .ok (.iload_n 1, 1) := by decide +kernel
theorem dX0_isKnownAt_21 : decode cX0_isKnownAt 21 = .ok (.if_icmp .le 7, 3) := by decide +kernel
theorem dX0_isKnownAt_24 : decode cX0_isKnownAt 24 = .ok (.iconst 1, 1) := by decide +kernel
theorem dX0_isKnownAt_25 : decode cX0_isKnownAt 25 = .ok (.goto 4, 3) := by decide +kernel
theorem dX0_isKnownAt_28 : decode cX0_isKnownAt 28 = .ok (.iconst 0, 1) := by decide +kernel
theorem dX0_isKnownAt_29 : decode cX0_isKnownAt 29 = .ok (.ireturn, 1) := by decide +kernel
theorem dX1_init_0 : decode cX1_init 0 = .ok (.aload_n 0, 1) := by decide +kernel
theorem dX1_init_1 : decode cX1_init 1 = .ok (.invokespecial 3, 3) := by decide +kernel
theorem dX1_init_4 : decode cX1_init 4 = .ok (.aload_n 0, 1) := by decide +kernel
theorem dX1_init_5 : decode cX1_init 5 = .ok (.bipush 24, 2) := by decide +kernel
theorem dX1_init_7 : decode cX1_init 7 = .ok (.anewarray 11, 3) := by decide +kernel
theorem dX1_init_10 : decode cX1_init 10 = .ok (.putfield 13, 3) := by decide +kernel
theorem dX1_init_13 : decode cX1_init 13 = .ok (.aload_n 0, 1) := by decide +kernel
theorem dX1_init_14 : decode cX1_init 14 = .ok (.aload_n 1, 1) := by decide +kernel
theorem dX1_init_15 : decode cX1_init 15 = .ok (.putfield 19, 3) := by decide +kernel
theorem dX1_init_18 : decode cX1_init 18 = .ok (.aload_n 0, 1) := by decide +kernel
theorem dX1_init_19 : decode cX1_init 19 = .ok (.aload_n 3, 1) := by decide +kernel
theorem dX1_init_20 : decode cX1_init 20 = .ok (.putfield 23, 3) := by decide +kernel
theorem dX1_init_23 : decode cX1_init 23 = .ok (.aload_n 0, 1) := by decide +kernel
theorem dX1_init_24 : decode cX1_init 24 = .ok (.aload 4, 2) := by decide +kernel
theorem dX1_init_26 : decode cX1_init 26 = .ok (.putfield 27, 3) := by decide +kernel
theorem dX1_init_29 : decode cX1_init 29 = .ok (.aload_n 0, 1) := by decide +kernel
theorem dX1_init_30 : decode cX1_init 30 = .ok (.new 31, 3) := by decide +kernel
theorem dX1_init_33 : decode cX1_init 33 = .ok (.dup, 1) := by decide +kernel
theorem dX1_init_34 : decode cX1_init 34 = .ok (.aload_n 2, 1) := by decide +kernel
theorem dX1_init_35 : decode cX1_init 35 = .ok (.aload_n 3, 1) := by decide +kernel
theorem dX1_init_36 : decode cX1_init 36 = .ok (.invokespecial 33, 3) := by decide +kernel
theorem dX1_init_39 : decode cX1_init 39 = .ok (.putfield 36, 3) := by decide +kernel
theorem dX1_init_42 : decode cX1_init 42 = .ok (.iconst 0, 1) := by decide +kernel
theorem dX1_init_43 : decode cX1_init 43 = .ok (.istore 5, 2) := by decide +kernel
theorem dX1_init_45 : decode cX1_init 45 = .ok (.iload 5, 2) := by decide +kernel
theorem dX1_init_47 : decode cX1_init 47 = .ok (.bipush 24, 2) := by decide +kernel
theorem dX1_init_49 : decode cX1_init 49 = .ok (.if_icmp .ge 23, 3) := by decide +kernel
theorem dX1_init_52 : decode cX1_init 52 = .ok (.aload_n 0, 1) := by decide +kernel
theorem dX1_init_53 : decode cX1_init 53 = .ok (.getfield 13, 3) := by decide +kernel
theorem dX1_init_56 : decode cX1_init 56 = .ok (.iload 5, 2) := by decide +kernel
theorem dX1_init_58 : decode cX1_init 58 = .ok (.new 11, 3) := by decide +kernel
theorem dX1_init_61 : decode cX1_init 61 = .ok (.dup, 1) := by decide +kernel
theorem dX1_init_62 : decode cX1_init 62 = .ok (.invokespecial 40, 3) := by decide +kernel
theorem dX1_init_65 : decode cX1_init 65 = .ok (.aastore, 1) := by decide +kernel
theorem dX1_init_66 : decode cX1_init 66 = .ok (.iinc 5 1, 3) := by decide +kernel
theorem dX1_init_69 : decode cX1_init 69 = .ok (.goto (-24), 3) := by decide +kernel
theorem dX1_init_72 : decode cX1_init 72 = .ok (.return_, 1) := by decide +kernel
theorem dX1_forget_0 : decode cX1_forget 0 = .ok (.iconst 0, 1) := by decide +kernel
theorem dX1_forget_1 : decode cX1_forget 1 = .ok (.istore_n 1, 1) := by decide +kernel
theorem dX1_forget_2 : decode cX1_forget 2 = .ok (.iload_n 1, 1) := by decide +kernel
theorem dX1_forget_3 : decode cX1_forget 3 = .ok (.bipush 24, 2) := by decide +kernel
theorem dX1_forget_5 : decode cX1_forget 5 = .ok (.if_icmp .ge 14, 3) := by decide +kernel
theorem dX1_forget_8 : decode cX1_forget 8 = .ok (.aload_n 0, 1) := by decide +kernel
theorem dX1_forget_9 : decode cX1_forget 9 = .ok (.iload_n 1, 1) := by decide +kernel
theorem dX1_forget_10 : decode cX1_forget 10 = .ok (.invokevirtual 41, 3) := by decide +kernel
theorem dX1_forget_13 : decode cX1_forget 13 = .ok (.iinc 1 1, 3) := by decide +kernel
theorem dX1_forget_16 : decode cX1_forget 16 = .ok (.goto (-14), 3) := by decide +kernel
theorem dX1_forget_19 : decode cX1_forget 19 = .ok (.return_, 1) := by decide +kernel
theorem dX1_follow_0 : decode cX1_follow 0 = .ok (.aload_n 0, 1) := by decide +kernel
theorem dX1_follow_1 : decode cX1_follow 1 = .ok (.aload_n 1, 1) := by decide +kernel
theorem dX1_follow_2 : decode cX1_follow 2 = .ok (.putfield 27, 3) := by decide +kernel
theorem dX1_follow_5 : decode cX1_follow 5 = .ok (.aload_n 0, 1) := by decide +kernel
theorem dX1_follow_6 : decode cX1_follow 6 = .ok (.invokevirtual 45, 3) := by decide +kernel
theorem dX1_follow_9 : decode cX1_follow 9 = .ok (.return_, 1) := by decide +kernel
theorem dX1_knowAt_0 : decode cX1_knowAt 0 = .ok (.aload_n 0, 1) := by decide +kernel
theorem dX1_knowAt_1 : decode cX1_knowAt 1 = .ok (.iload_n 1, 1) := by decide +kernel
theorem dX1_knowAt_2 : decode cX1_knowAt 2 = .ok (.invokevirtual 48, 3) := by decide +kernel
theorem dX1_knowAt_5 : decode cX1_knowAt 5 = .ok (.iconst 0, 1) := by decide +kernel
theorem dX1_knowAt_6 : decode cX1_knowAt 6 = .ok (.istore_n 2, 1) := by decide +kernel
theorem dX1_knowAt_7 : decode cX1_knowAt 7 = .ok (.iload_n 2, 1) := by decide +kernel
theorem dX1_knowAt_8 : decode cX1_knowAt 8 = .ok (.aload_n 0, 1) := by decide +kernel
theorem dX1_knowAt_9 : decode cX1_knowAt 9 = .ok (.getfield 19, 3) := by decide +kernel
theorem dX1_knowAt_12 : decode cX1_knowAt 12 = .ok (.getfield 51, 3) := by decide +kernel
theorem dX1_knowAt_15 : decode cX1_knowAt 15 = .ok (.if_icmp .ge 46, 3) := by decide +kernel
theorem dX1_knowAt_18 : decode cX1_knowAt 18 = .ok (.aload_n 0, 1) := by decide +kernel
theorem dX1_knowAt_19 : decode cX1_knowAt 19 = .ok (.getfield 13, 3) := by decide +kernel
theorem dX1_knowAt_22 : decode cX1_knowAt 22 = .ok (.iload_n 2, 1) := by decide +kernel
theorem dX1_knowAt_23 : decode cX1_knowAt 23 = .ok (.aaload, 1) := by decide +kernel
theorem dX1_knowAt_24 : decode cX1_knowAt 24 = .ok (.astore_n 3, 1) := by decide +kernel
theorem dX1_knowAt_25 : decode cX1_knowAt 25 = .ok (.aload_n 3, 1) := by decide +kernel
theorem dX1_knowAt_26 : decode cX1_knowAt 26 = .ok (.getfield 55, 3) := by decide +kernel
theorem dX1_knowAt_29 : decode cX1_knowAt 29 = .ok (.ifCond .eq 26, 3) := by decide +kernel
theorem dX1_knowAt_32 : decode cX1_knowAt 32 = .ok (.aload_n 0, 1) := by decide +kernel
theorem dX1_knowAt_33 : decode cX1_knowAt 33 = .ok (.getfield 36, 3) := by decide +kernel
theorem dX1_knowAt_36 : decode cX1_knowAt 36 = .ok (.aload_n 3, 1) := by decide +kernel
theorem dX1_knowAt_37 : decode cX1_knowAt 37 = .ok (.iload_n 2, 1) := by decide +kernel
theorem dX1_knowAt_38 : decode cX1_knowAt 38 = .ok (.iload_n 1, 1) := by decide +kernel
theorem dX1_knowAt_39 : decode cX1_knowAt 39 = .ok (.invokevirtual 59, 3) := by decide +kernel
theorem dX1_knowAt_42 : decode cX1_knowAt 42 = .ok (.aload_n 0, 1) := by decide +kernel
theorem dX1_knowAt_43 : decode cX1_knowAt 43 = .ok (.getfield 27, 3) := by decide +kernel
theorem dX1_knowAt_46 : decode cX1_knowAt 46 = .ok (.aload_n 3, 1) := by decide +kernel
theorem dX1_knowAt_47 : decode cX1_knowAt 47 = .ok (.invokevirtual 63, 3) := by decide +kernel
theorem dX1_knowAt_50 : decode cX1_knowAt 50 = .ok (.aload_n 3, 1) := by decide +kernel
theorem dX1_knowAt_51 : decode cX1_knowAt 51 = .ok (.iconst 0, 1) := by decide +kernel
theorem dX1_knowAt_52 : decode cX1_knowAt 52 = .ok (.putfield 55, 3) := by decide +kernel
theorem dX1_knowAt_55 : decode cX1_knowAt 55 = .ok (.iinc 2 1, 3) := by decide +kernel
theorem dX1_knowAt_58 : decode cX1_knowAt 58 = .ok (.goto (-51), 3) := by decide +kernel
theorem dX1_knowAt_61 : decode cX1_knowAt 61 = .ok (.return_, 1) := by decide +kernel
theorem dX1_moveTo_0 : decode cX1_moveTo 0 = .ok (.aload_n 0, 1) := by decide +kernel
theorem dX1_moveTo_1 : decode cX1_moveTo 1 = .ok (.getfield 69, 3) := by decide +kernel
theorem dX1_moveTo_4 : decode cX1_moveTo 4 = .ok (.iload_n 1, 1) := by decide +kernel
theorem dX1_moveTo_5 : decode cX1_moveTo 5 = .ok (.invokestatic 72, 3) := by decide +kernel
theorem dX1_moveTo_8 : decode cX1_moveTo 8 = .ok (.istore_n 2, 1) := by decide +kernel
theorem dX1_moveTo_9 : decode cX1_moveTo 9 = .ok (.aload_n 0, 1) := by decide +kernel
theorem dX1_moveTo_10 : decode cX1_moveTo 10 = .ok (.getfield 69, 3) := by decide +kernel
theorem dX1_moveTo_13 : decode cX1_moveTo 13 = .ok (.iload_n 1, 1) := by decide +kernel
theorem dX1_moveTo_14 : decode cX1_moveTo 14 = .ok (.invokestatic 78, 3) := by decide +kernel
theorem dX1_moveTo_17 : decode cX1_moveTo 17 = .ok (.iconst 1, 1) := by decide +kernel
theorem dX1_moveTo_18 : decode cX1_moveTo 18 = .ok (.iadd, 1) := by decide +kernel
theorem dX1_moveTo_19 : decode cX1_moveTo 19 = .ok (.istore_n 3, 1) := by decide +kernel
theorem dX1_moveTo_20 : decode cX1_moveTo 20 = .ok (.iload_n 3, 1) := by decide +kernel
theorem dX1_moveTo_21 : decode cX1_moveTo 21 = .ok (.iload_n 2, 1) := by decide +kernel
theorem dX1_moveTo_22 : decode cX1_moveTo 22 = .ok (.if_icmp .gt 21, 3) := by decide +kernel
theorem dX1_moveTo_25 : decode cX1_moveTo 25 = .ok (.aload_n 0, 1) := by decide +kernel
theorem dX1_moveTo_26 : decode cX1_moveTo 26 = .ok (.aload_n 0, 1) := by decide +kernel
theorem dX1_moveTo_27 : decode cX1_moveTo 27 = .ok (.getfield 23, 3) := by decide +kernel
theorem dX1_moveTo_30 : decode cX1_moveTo 30 = .ok (.iload_n 3, 1) := by decide +kernel
theorem dX1_moveTo_31 : decode cX1_moveTo 31 = .ok (.invokevirtual 81, 3) := by decide +kernel
theorem dX1_moveTo_34 : decode cX1_moveTo 34 = .ok (.invokevirtual 41, 3) := by decide +kernel
theorem dX1_moveTo_37 : decode cX1_moveTo 37 = .ok (.iinc 3 1, 3) := by decide +kernel
theorem dX1_moveTo_40 : decode cX1_moveTo 40 = .ok (.goto (-20), 3) := by decide +kernel
theorem dX1_moveTo_43 : decode cX1_moveTo 43 = .ok (.aload_n 0, 1) := by decide +kernel
theorem dX1_moveTo_44 : decode cX1_moveTo 44 = .ok (.iload_n 1, 1) := by decide +kernel
theorem dX1_moveTo_45 : decode cX1_moveTo 45 = .ok (.putfield 69, 3) := by decide +kernel
theorem dX1_moveTo_48 : decode cX1_moveTo 48 = .ok (.return_, 1) := by decide +kernel
theorem dX1_markStale_0 : decode cX1_markStale 0 = .ok (.iload_n 1, 1) := by decide +kernel
theorem dX1_markStale_1 : decode cX1_markStale 1 = .ok (.iconst 0, 1) := by decide +kernel
theorem dX1_markStale_2 : decode cX1_markStale 2 = .ok (.bipush 23, 2) := by decide +kernel
theorem dX1_markStale_4 : decode cX1_markStale 4 = .ok (.invokestatic 87, 3) := by decide +kernel
theorem dX1_markStale_7 : decode cX1_markStale 7 = .ok (.ifCond .eq 13, 3) := by decide +kernel
theorem dX1_markStale_10 : decode cX1_markStale 10 = .ok (.aload_n 0, 1) := by decide +kernel
theorem dX1_markStale_11 : decode cX1_markStale 11 = .ok (.getfield 13, 3) := by decide +kernel
theorem dX1_markStale_14 : decode cX1_markStale 14 = .ok (.iload_n 1, 1) := by decide +kernel
theorem dX1_markStale_15 : decode cX1_markStale 15 = .ok (.aaload, 1) := by decide +kernel
theorem dX1_markStale_16 : decode cX1_markStale 16 = .ok (.iconst 1, 1) := by decide +kernel
theorem dX1_markStale_17 : decode cX1_markStale 17 = .ok (.putfield 55, 3) := by decide +kernel
theorem dX1_markStale_20 : decode cX1_markStale 20 = .ok (.return_, 1) := by decide +kernel
theorem dX1_sheetAt_0 : decode cX1_sheetAt 0 = .ok (.aload_n 0, 1) := by decide +kernel
theorem dX1_sheetAt_1 : decode cX1_sheetAt 1 = .ok (.getfield 19, 3) := by decide +kernel
theorem dX1_sheetAt_4 : decode cX1_sheetAt 4 = .ok (.iload_n 1, 1) := by decide +kernel
theorem dX1_sheetAt_5 : decode cX1_sheetAt 5 = .ok (.invokevirtual 91, 3) := by decide +kernel
theorem dX1_sheetAt_8 : decode cX1_sheetAt 8 = .ok (.ifCond .eq 12, 3) := by decide +kernel
theorem dX1_sheetAt_11 : decode cX1_sheetAt 11 = .ok (.aload_n 0, 1) := by decide +kernel
theorem dX1_sheetAt_12 : decode cX1_sheetAt 12 = .ok (.getfield 13, 3) := by decide +kernel
theorem dX1_sheetAt_15 : decode cX1_sheetAt 15 = .ok (.iload_n 1, 1) := by decide +kernel
theorem dX1_sheetAt_16 : decode cX1_sheetAt 16 = .ok (.aaload, 1) := by decide +kernel
theorem dX1_sheetAt_17 : decode cX1_sheetAt 17 = .ok (.goto 4, 3) := by decide +kernel
theorem dX1_sheetAt_20 : decode cX1_sheetAt 20 = .ok (.aconst_null, 1) := by decide +kernel
theorem dX1_sheetAt_21 : decode cX1_sheetAt 21 = .ok (.areturn, 1) := by decide +kernel
theorem dX1_placeOf_0 : decode cX1_placeOf 0 = .ok (.aload_n 0, 1) := by decide +kernel
theorem dX1_placeOf_1 : decode cX1_placeOf 1 = .ok (.iload_n 1, 1) := by decide +kernel
theorem dX1_placeOf_2 : decode cX1_placeOf 2 = .ok (.invokevirtual 95, 3) := by decide +kernel
theorem dX1_placeOf_5 : decode cX1_placeOf 5 = .ok (.astore_n 2, 1) := by decide +kernel
theorem dX1_placeOf_6 : decode cX1_placeOf 6 = .ok (.aload_n 2, 1) := by decide +kernel
theorem dX1_placeOf_7 : decode cX1_placeOf 7 = .ok (.ifnonnull 5, 3) := by decide +kernel
theorem dX1_placeOf_10 : decode cX1_placeOf 10 = .ok (.iconst (-1), 1) := by decide +kernel
theorem dX1_placeOf_11 : decode cX1_placeOf 11 = .ok (.ireturn, 1) := by decide +kernel
theorem dX1_placeOf_12 : decode cX1_placeOf 12 = .ok (.aload_n 2, 1) := by decide +kernel
theorem dX1_placeOf_13 : decode cX1_placeOf 13 = .ok (.getfield 99, 3) := by decide +kernel
theorem dX1_placeOf_16 : decode cX1_placeOf 16 = .ok (.ifCond .eq 7, 3) := by decide +kernel
theorem dX1_placeOf_19 : decode cX1_placeOf 19 = .ok (.iconst 0, 1) := by decide +kernel
theorem dX1_placeOf_20 : decode cX1_placeOf 20 = .ok (.goto 10, 3) := by decide +kernel
theorem dX1_placeOf_23 : decode cX1_placeOf 23 = .ok (.iconst 1, 1) := by decide +kernel
theorem dX1_placeOf_24 : decode cX1_placeOf 24 = .ok (.aload_n 0, 1) := by decide +kernel
theorem dX1_placeOf_25 : decode cX1_placeOf 25 = .ok (.aload_n 2, 1) := by decide +kernel
theorem dX1_placeOf_26 : decode cX1_placeOf 26 = .ok (.invokevirtual 102, 3) := by decide +kernel
theorem dX1_placeOf_29 : decode cX1_placeOf 29 = .ok (.iadd, 1) := by decide +kernel
theorem dX1_placeOf_30 : decode cX1_placeOf 30 = .ok (.ireturn, 1) := by decide +kernel
theorem dX1_numberAhead_0 : decode cX1_numberAhead 0 = .ok (.iconst 0, 1) := by decide +kernel
theorem dX1_numberAhead_1 : decode cX1_numberAhead 1 = .ok (.istore_n 2, 1) := by decide +kernel
theorem dX1_numberAhead_2 : decode cX1_numberAhead 2 = .ok (.iconst 0, 1) := by decide +kernel
theorem dX1_numberAhead_3 : decode cX1_numberAhead 3 = .ok (.istore_n 3, 1) := by decide +kernel
theorem dX1_numberAhead_4 : decode cX1_numberAhead 4 = .ok (.iload_n 3, 1) := by decide +kernel
theorem dX1_numberAhead_5 : decode cX1_numberAhead 5 = .ok (.aload_n 0, 1) := by decide +kernel
theorem dX1_numberAhead_6 : decode cX1_numberAhead 6 = .ok (.getfield 19, 3) := by decide +kernel
theorem dX1_numberAhead_9 : decode cX1_numberAhead 9 = .ok (.getfield 51, 3) := by decide +kernel
theorem dX1_numberAhead_12 : decode cX1_numberAhead 12 = .ok (.if_icmp .ge 41, 3) := by decide +kernel
theorem dX1_numberAhead_15 : decode cX1_numberAhead 15 = .ok (.aload_n 0, 1) := by decide +kernel
theorem dX1_numberAhead_16 : decode cX1_numberAhead 16 = .ok (.getfield 13, 3) := by decide +kernel
theorem dX1_numberAhead_19 : decode cX1_numberAhead 19 = .ok (.iload_n 3, 1) := by decide +kernel
theorem dX1_numberAhead_20 : decode cX1_numberAhead 20 = .ok (.aaload, 1) := by decide +kernel
theorem dX1_numberAhead_21 : decode cX1_numberAhead 21 = .ok (.getfield 99, 3) := by decide +kernel
theorem dX1_numberAhead_24 : decode cX1_numberAhead 24 = .ok (.ifCond .ne 23, 3) := by decide +kernel
theorem dX1_numberAhead_27 : decode cX1_numberAhead 27 = .ok (.aload_n 0, 1) := by decide +kernel
theorem dX1_numberAhead_28 : decode cX1_numberAhead 28 = .ok (.getfield 27, 3) := by decide +kernel
theorem dX1_numberAhead_31 : decode cX1_numberAhead 31 = .ok (.aload_n 0, 1) := by decide +kernel
theorem dX1_numberAhead_32 : decode cX1_numberAhead 32 = .ok (.getfield 13, 3) := by decide +kernel
theorem dX1_numberAhead_35 : decode cX1_numberAhead 35 = .ok (.iload_n 3, 1) := by decide +kernel
theorem dX1_numberAhead_36 : decode cX1_numberAhead 36 = .ok (.aaload, 1) := by decide +kernel
theorem dX1_numberAhead_37 : decode cX1_numberAhead 37 = .ok (.aload_n 1, 1) := by decide +kernel
theorem dX1_numberAhead_38 : decode cX1_numberAhead 38 = .ok (.invokevirtual 106, 3) := by decide +kernel
theorem dX1_numberAhead_41 : decode cX1_numberAhead 41 = .ok (.ifCond .ge 6, 3) := by decide +kernel
theorem dX1_numberAhead_44 : decode cX1_numberAhead 44 = .ok (.iinc 2 1, 3) := by decide +kernel
theorem dX1_numberAhead_47 : decode cX1_numberAhead 47 = .ok (.iinc 3 1, 3) := by decide +kernel
theorem dX1_numberAhead_50 : decode cX1_numberAhead 50 = .ok (.goto (-46), 3) := by decide +kernel
theorem dX1_numberAhead_53 : decode cX1_numberAhead 53 = .ok (.iload_n 2, 1) := by decide +kernel
theorem dX1_numberAhead_54 : decode cX1_numberAhead 54 = .ok (.ireturn, 1) := by decide +kernel
theorem dX1_inRing_0 : decode cX1_inRing 0 = .ok (.iconst 0, 1) := by decide +kernel
theorem dX1_inRing_1 : decode cX1_inRing 1 = .ok (.istore_n 2, 1) := by decide +kernel
theorem dX1_inRing_2 : decode cX1_inRing 2 = .ok (.iload_n 2, 1) := by decide +kernel
theorem dX1_inRing_3 : decode cX1_inRing 3 = .ok (.aload_n 0, 1) := by decide +kernel
theorem dX1_inRing_4 : decode cX1_inRing 4 = .ok (.getfield 19, 3) := by decide +kernel
theorem dX1_inRing_7 : decode cX1_inRing 7 = .ok (.getfield 51, 3) := by decide +kernel
theorem dX1_inRing_10 : decode cX1_inRing 10 = .ok (.if_icmp .ge 32, 3) := by decide +kernel
theorem dX1_inRing_13 : decode cX1_inRing 13 = .ok (.aload_n 0, 1) := by decide +kernel
theorem dX1_inRing_14 : decode cX1_inRing 14 = .ok (.getfield 13, 3) := by decide +kernel
theorem dX1_inRing_17 : decode cX1_inRing 17 = .ok (.iload_n 2, 1) := by decide +kernel
theorem dX1_inRing_18 : decode cX1_inRing 18 = .ok (.aaload, 1) := by decide +kernel
theorem dX1_inRing_19 : decode cX1_inRing 19 = .ok (.getfield 99, 3) := by decide +kernel
theorem dX1_inRing_22 : decode cX1_inRing 22 = .ok (.ifCond .ne 14, 3) := by decide +kernel
theorem dX1_inRing_25 : decode cX1_inRing 25 = .ok (.aload_n 0, 1) := by decide +kernel
theorem dX1_inRing_26 : decode cX1_inRing 26 = .ok (.iload_n 2, 1) := by decide +kernel
theorem dX1_inRing_27 : decode cX1_inRing 27 = .ok (.invokevirtual 110, 3) := by decide +kernel
theorem dX1_inRing_30 : decode cX1_inRing 30 = .ok (.iload_n 1, 1) := by decide +kernel
theorem dX1_inRing_31 : decode cX1_inRing 31 = .ok (.if_icmp .ne 5, 3) := by decide +kernel
theorem dX1_inRing_34 : decode cX1_inRing 34 = .ok (.iload_n 2, 1) := by decide +kernel
theorem dX1_inRing_35 : decode cX1_inRing 35 = .ok (.ireturn, 1) := by decide +kernel
theorem dX1_inRing_36 : decode cX1_inRing 36 = .ok (.iinc 2 1, 3) := by decide +kernel
theorem dX1_inRing_39 : decode cX1_inRing 39 = .ok (.goto (-37), 3) := by decide +kernel
theorem dX1_inRing_42 : decode cX1_inRing 42 = .ok (.iconst (-1), 1) := by decide +kernel
theorem dX1_inRing_43 : decode cX1_inRing 43 = .ok (.ireturn, 1) := by decide +kernel
theorem dX1_numberEarlier_0 : decode cX1_numberEarlier 0 = .ok (.iconst 0, 1) := by decide +kernel
theorem dX1_numberEarlier_1 : decode cX1_numberEarlier 1 = .ok (.istore_n 2, 1) := by decide +kernel
theorem dX1_numberEarlier_2 : decode cX1_numberEarlier 2 = .ok (.iconst 0, 1) := by decide +kernel
theorem dX1_numberEarlier_3 : decode cX1_numberEarlier 3 = .ok (.istore_n 3, 1) := by decide +kernel
theorem dX1_numberEarlier_4 : decode cX1_numberEarlier 4 = .ok (.iload_n 3, 1) := by decide +kernel
theorem dX1_numberEarlier_5 : decode cX1_numberEarlier 5 = .ok (.aload_n 0, 1) := by decide +kernel
theorem dX1_numberEarlier_6 : decode cX1_numberEarlier 6 = .ok (.getfield 19, 3) := by decide +kernel
theorem dX1_numberEarlier_9 : decode cX1_numberEarlier 9 = .ok (.getfield 51, 3) := by decide +kernel
theorem dX1_numberEarlier_12 : decode cX1_numberEarlier 12 = .ok (.if_icmp .ge 60, 3) := by decide +kernel
theorem dX1_numberEarlier_15 : decode cX1_numberEarlier 15 = .ok (.aload_n 0, 1) := by decide +kernel
theorem dX1_numberEarlier_16 : decode cX1_numberEarlier 16 = .ok (.getfield 27, 3) := by decide +kernel
theorem dX1_numberEarlier_19 : decode cX1_numberEarlier 19 = .ok (.aload_n 0, 1) := by decide +kernel
theorem dX1_numberEarlier_20 : decode cX1_numberEarlier 20 = .ok (.getfield 13, 3) := by decide +kernel
theorem dX1_numberEarlier_23 : decode cX1_numberEarlier 23 = .ok (.iload_n 3, 1) := by decide +kernel
theorem dX1_numberEarlier_24 : decode cX1_numberEarlier 24 = .ok (.aaload, 1) := by decide +kernel
theorem dX1_numberEarlier_25 : decode cX1_numberEarlier 25 = .ok (.aload_n 0, 1) := by decide +kernel
theorem dX1_numberEarlier_26 : decode cX1_numberEarlier 26 = .ok (.getfield 13, 3) := by decide +kernel
theorem dX1_numberEarlier_29 : decode cX1_numberEarlier 29 = .ok (.iload_n 1, 1) := by decide +kernel
theorem dX1_numberEarlier_30 : decode cX1_numberEarlier 30 = .ok (.aaload, 1) := by decide +kernel
theorem dX1_numberEarlier_31 : decode cX1_numberEarlier 31 = .ok (.invokevirtual 106, 3) := by decide +kernel
theorem dX1_numberEarlier_34 : decode cX1_numberEarlier 34 = .ok (.istore 4, 2) := by decide +kernel
theorem dX1_numberEarlier_36 : decode cX1_numberEarlier 36 = .ok (.aload_n 0, 1) := by decide +kernel
theorem dX1_numberEarlier_37 : decode cX1_numberEarlier 37 = .ok (.getfield 13, 3) := by decide +kernel
theorem dX1_numberEarlier_40 : decode cX1_numberEarlier 40 = .ok (.iload_n 3, 1) := by decide +kernel
theorem dX1_numberEarlier_41 : decode cX1_numberEarlier 41 = .ok (.aaload, 1) := by decide +kernel
theorem dX1_numberEarlier_42 : decode cX1_numberEarlier 42 = .ok (.getfield 99, 3) := by decide +kernel
theorem dX1_numberEarlier_45 : decode cX1_numberEarlier 45 = .ok (.ifCond .ne 21, 3) := by decide +kernel
theorem dX1_numberEarlier_48 : decode cX1_numberEarlier 48 = .ok (.iload 4, 2) := by decide +kernel
theorem dX1_numberEarlier_50 : decode cX1_numberEarlier 50 = .ok (.ifCond .gt 13, 3) := by decide +kernel
theorem dX1_numberEarlier_53 : decode cX1_numberEarlier 53 = .ok (.iload 4, 2) := by decide +kernel
theorem dX1_numberEarlier_55 : decode cX1_numberEarlier 55 = .ok (.ifCond .ne 11, 3) := by decide +kernel
theorem dX1_numberEarlier_58 : decode cX1_numberEarlier 58 = .ok (.iload_n 3, 1) := by decide +kernel
theorem dX1_numberEarlier_59 : decode cX1_numberEarlier 59 = .ok (.iload_n 1, 1) := by decide +kernel
theorem dX1_numberEarlier_60 : decode cX1_numberEarlier 60 = .ok (.if_icmp .le 6, 3) := by decide +kernel
theorem dX1_numberEarlier_63 : decode cX1_numberEarlier 63 = .ok (.iinc 2 1, 3) := by decide +kernel
theorem dX1_numberEarlier_66 : decode cX1_numberEarlier 66 = .ok (.iinc 3 1, 3) := by decide +kernel
theorem dX1_numberEarlier_69 : decode cX1_numberEarlier 69 = .ok (.goto (-65), 3) := by decide +kernel
theorem dX1_numberEarlier_72 : decode cX1_numberEarlier 72 = .ok (.iload_n 2, 1) := by decide +kernel
theorem dX1_numberEarlier_73 : decode cX1_numberEarlier 73 = .ok (.ireturn, 1) := by decide +kernel
theorem dX1_teamSum_0 : decode cX1_teamSum 0 = .ok (.lconst 0, 1) := by decide +kernel
theorem dX1_teamSum_1 : decode cX1_teamSum 1 = .ok (.lstore_n 2, 1) := by decide +kernel
theorem dX1_teamSum_2 : decode cX1_teamSum 2 = .ok (.lconst 0, 1) := by decide +kernel
theorem dX1_teamSum_3 : decode cX1_teamSum 3 = .ok (.lstore 4, 2) := by decide +kernel
theorem dX1_teamSum_5 : decode cX1_teamSum 5 = .ok (.iconst 0, 1) := by decide +kernel
theorem dX1_teamSum_6 : decode cX1_teamSum 6 = .ok (.istore 6, 2) := by decide +kernel
theorem dX1_teamSum_8 : decode cX1_teamSum 8 = .ok (.iconst 0, 1) := by decide +kernel
theorem dX1_teamSum_9 : decode cX1_teamSum 9 = .ok (.istore 7, 2) := by decide +kernel
theorem dX1_teamSum_11 : decode cX1_teamSum 11 = .ok (.iload 7, 2) := by decide +kernel
theorem dX1_teamSum_13 : decode cX1_teamSum 13 = .ok (.aload_n 0, 1) := by decide +kernel
theorem dX1_teamSum_14 : decode cX1_teamSum 14 = .ok (.getfield 19, 3) := by decide +kernel
theorem dX1_teamSum_17 : decode cX1_teamSum 17 = .ok (.getfield 51, 3) := by decide +kernel
theorem dX1_teamSum_20 : decode cX1_teamSum 20 = .ok (.if_icmp .ge 58, 3) := by decide +kernel
theorem dX1_teamSum_23 : decode cX1_teamSum 23 = .ok (.aload_n 0, 1) := by decide +kernel
theorem dX1_teamSum_24 : decode cX1_teamSum 24 = .ok (.iload_n 1, 1) := by decide +kernel
theorem dX1_teamSum_25 : decode cX1_teamSum 25 = .ok (.iload 7, 2) := by decide +kernel
theorem dX1_teamSum_27 : decode cX1_teamSum 27 = .ok (.invokevirtual 113, 3) := by decide +kernel
theorem dX1_teamSum_30 : decode cX1_teamSum 30 = .ok (.ifCond .eq 42, 3) := by decide +kernel
theorem dX1_teamSum_33 : decode cX1_teamSum 33 = .ok (.aload_n 0, 1) := by decide +kernel
theorem dX1_teamSum_34 : decode cX1_teamSum 34 = .ok (.getfield 13, 3) := by decide +kernel
theorem dX1_teamSum_37 : decode cX1_teamSum 37 = .ok (.iload 7, 2) := by decide +kernel
theorem dX1_teamSum_39 : decode cX1_teamSum 39 = .ok (.aaload, 1) := by decide +kernel
theorem dX1_teamSum_40 : decode cX1_teamSum 40 = .ok (.getfield 117, 3) := by decide +kernel
theorem dX1_teamSum_43 : decode cX1_teamSum 43 = .ok (.lstore 8, 2) := by decide +kernel
theorem dX1_teamSum_45 : decode cX1_teamSum 45 = .ok (.iload 6, 2) := by decide +kernel
theorem dX1_teamSum_47 : decode cX1_teamSum 47 = .ok (.ifCond .ne 8, 3) := by decide +kernel
theorem dX1_teamSum_50 : decode cX1_teamSum 50 = .ok (.lload 8, 2) := by decide +kernel
theorem dX1_teamSum_52 : decode cX1_teamSum 52 = .ok (.goto 10, 3) := by decide +kernel
theorem dX1_teamSum_55 : decode cX1_teamSum 55 = .ok (.lload 4, 2) := by decide +kernel
theorem dX1_teamSum_57 : decode cX1_teamSum 57 = .ok (.lload 8, 2) := by decide +kernel
theorem dX1_teamSum_59 : decode cX1_teamSum 59 = .ok (.invokestatic 121, 3) := by decide +kernel
theorem dX1_teamSum_62 : decode cX1_teamSum 62 = .ok (.lstore 4, 2) := by decide +kernel
theorem dX1_teamSum_64 : decode cX1_teamSum 64 = .ok (.lload_n 2, 1) := by decide +kernel
theorem dX1_teamSum_65 : decode cX1_teamSum 65 = .ok (.lload 8, 2) := by decide +kernel
theorem dX1_teamSum_67 : decode cX1_teamSum 67 = .ok (.ladd, 1) := by decide +kernel
theorem dX1_teamSum_68 : decode cX1_teamSum 68 = .ok (.lstore_n 2, 1) := by decide +kernel
theorem dX1_teamSum_69 : decode cX1_teamSum 69 = .ok (.iinc 6 1, 3) := by decide +kernel
theorem dX1_teamSum_72 : decode cX1_teamSum 72 = .ok (.iinc 7 1, 3) := by decide +kernel
theorem dX1_teamSum_75 : decode cX1_teamSum 75 = .ok (.goto (-64), 3) := by decide +kernel
theorem dX1_teamSum_78 : decode cX1_teamSum 78 = .ok (.iload 6, 2) := by decide +kernel
theorem dX1_teamSum_80 : decode cX1_teamSum 80 = .ok (.iconst 3, 1) := by decide +kernel
theorem dX1_teamSum_81 : decode cX1_teamSum 81 = .ok (.if_icmp .le 10, 3) := by decide +kernel
theorem dX1_teamSum_84 : decode cX1_teamSum 84 = .ok (.lload_n 2, 1) := by decide +kernel
theorem dX1_teamSum_85 : decode cX1_teamSum 85 = .ok (.lload 4, 2) := by decide +kernel
theorem dX1_teamSum_87 : decode cX1_teamSum 87 = .ok (.lsub, 1) := by decide +kernel
theorem dX1_teamSum_88 : decode cX1_teamSum 88 = .ok (.goto 14, 3) := by decide +kernel
theorem dX1_teamSum_91 : decode cX1_teamSum 91 = .ok (.lload_n 2, 1) := by decide +kernel
theorem dX1_teamSum_92 : decode cX1_teamSum 92 = .ok (.ldc2_w 124, 3) := by decide +kernel
theorem dX1_teamSum_95 : decode cX1_teamSum 95 = .ok (.iconst 3, 1) := by decide +kernel
theorem dX1_teamSum_96 : decode cX1_teamSum 96 = .ok (.iload 6, 2) := by decide +kernel
theorem dX1_teamSum_98 : decode cX1_teamSum 98 = .ok (.isub, 1) := by decide +kernel
theorem dX1_teamSum_99 : decode cX1_teamSum 99 = .ok (.i2l, 1) := by decide +kernel
theorem dX1_teamSum_100 : decode cX1_teamSum 100 = .ok (.lmul, 1) := by decide +kernel
theorem dX1_teamSum_101 : decode cX1_teamSum 101 = .ok (.ladd, 1) := by decide +kernel
theorem dX1_teamSum_102 : decode cX1_teamSum 102 = .ok (.lreturn, 1) := by decide +kernel
theorem dX1_leastOfTeam_0 : decode cX1_leastOfTeam 0 = .ok (.iconst 0, 1) := by decide +kernel
theorem dX1_leastOfTeam_1 : decode cX1_leastOfTeam 1 = .ok (.istore_n 2, 1) := by decide +kernel
theorem dX1_leastOfTeam_2 : decode cX1_leastOfTeam 2 = .ok (.ldc2_w 124, 3) := by decide +kernel
theorem dX1_leastOfTeam_5 : decode cX1_leastOfTeam 5 = .ok (.lstore_n 3, 1) := by decide +kernel
theorem dX1_leastOfTeam_6 : decode cX1_leastOfTeam 6 = .ok (.iconst 0, 1) := by decide +kernel
theorem dX1_leastOfTeam_7 : decode cX1_leastOfTeam 7 = .ok (.istore 5, 2) := by decide +kernel
theorem dX1_leastOfTeam_9 : decode cX1_leastOfTeam 9 = .ok (.iload 5, 2) := by decide +kernel
theorem dX1_leastOfTeam_11 : decode cX1_leastOfTeam 11 = .ok (.aload_n 0, 1) := by decide +kernel
theorem dX1_leastOfTeam_12 : decode cX1_leastOfTeam 12 = .ok (.getfield 19, 3) := by decide +kernel
theorem dX1_leastOfTeam_15 : decode cX1_leastOfTeam 15 = .ok (.getfield 51, 3) := by decide +kernel
theorem dX1_leastOfTeam_18 : decode cX1_leastOfTeam 18 = .ok (.if_icmp .ge 49, 3) := by decide +kernel
theorem dX1_leastOfTeam_21 : decode cX1_leastOfTeam 21 = .ok (.aload_n 0, 1) := by decide +kernel
theorem dX1_leastOfTeam_22 : decode cX1_leastOfTeam 22 = .ok (.iload_n 1, 1) := by decide +kernel
theorem dX1_leastOfTeam_23 : decode cX1_leastOfTeam 23 = .ok (.iload 5, 2) := by decide +kernel
theorem dX1_leastOfTeam_25 : decode cX1_leastOfTeam 25 = .ok (.invokevirtual 113, 3) := by decide +kernel
theorem dX1_leastOfTeam_28 : decode cX1_leastOfTeam 28 = .ok (.ifCond .eq 33, 3) := by decide +kernel
theorem dX1_leastOfTeam_31 : decode cX1_leastOfTeam 31 = .ok (.aload_n 0, 1) := by decide +kernel
theorem dX1_leastOfTeam_32 : decode cX1_leastOfTeam 32 = .ok (.getfield 13, 3) := by decide +kernel
theorem dX1_leastOfTeam_35 : decode cX1_leastOfTeam 35 = .ok (.iload 5, 2) := by decide +kernel
theorem dX1_leastOfTeam_37 : decode cX1_leastOfTeam 37 = .ok (.aaload, 1) := by decide +kernel
theorem dX1_leastOfTeam_38 : decode cX1_leastOfTeam 38 = .ok (.getfield 117, 3) := by decide +kernel
theorem dX1_leastOfTeam_41 : decode cX1_leastOfTeam 41 = .ok (.lstore 6, 2) := by decide +kernel
theorem dX1_leastOfTeam_43 : decode cX1_leastOfTeam 43 = .ok (.iload_n 2, 1) := by decide +kernel
theorem dX1_leastOfTeam_44 : decode cX1_leastOfTeam 44 = .ok (.ifCond .eq 12, 3) := by decide +kernel
theorem dX1_leastOfTeam_47 : decode cX1_leastOfTeam 47 = .ok (.lload_n 3, 1) := by decide +kernel
theorem dX1_leastOfTeam_48 : decode cX1_leastOfTeam 48 = .ok (.lload 6, 2) := by decide +kernel
theorem dX1_leastOfTeam_50 : decode cX1_leastOfTeam 50 = .ok (.invokestatic 126, 3) := by decide +kernel
theorem dX1_leastOfTeam_53 : decode cX1_leastOfTeam 53 = .ok (.goto 5, 3) := by decide +kernel
theorem dX1_leastOfTeam_56 : decode cX1_leastOfTeam 56 = .ok (.lload 6, 2) := by decide +kernel
theorem dX1_leastOfTeam_58 : decode cX1_leastOfTeam 58 = .ok (.lstore_n 3, 1) := by decide +kernel
theorem dX1_leastOfTeam_59 : decode cX1_leastOfTeam 59 = .ok (.iconst 1, 1) := by decide +kernel
theorem dX1_leastOfTeam_60 : decode cX1_leastOfTeam 60 = .ok (.istore_n 2, 1) := by decide +kernel
theorem dX1_leastOfTeam_61 : decode cX1_leastOfTeam 61 = .ok (.iinc 5 1, 3) := by decide +kernel
theorem dX1_leastOfTeam_64 : decode cX1_leastOfTeam 64 = .ok (.goto (-55), 3) := by decide +kernel
theorem dX1_leastOfTeam_67 : decode cX1_leastOfTeam 67 = .ok (.lload_n 3, 1) := by decide +kernel
theorem dX1_leastOfTeam_68 : decode cX1_leastOfTeam 68 = .ok (.lreturn, 1) := by decide +kernel
theorem dX1_isPlacedFor_0 : decode cX1_isPlacedFor 0 = .ok (.aload_n 0, 1) := by decide +kernel
theorem dX1_isPlacedFor_1 : decode cX1_isPlacedFor 1 = .ok (.getfield 19, 3) := by decide +kernel
theorem dX1_isPlacedFor_4 : decode cX1_isPlacedFor 4 = .ok (.iload_n 2, 1) := by decide +kernel
theorem dX1_isPlacedFor_5 : decode cX1_isPlacedFor 5 = .ok (.invokevirtual 128, 3) := by decide +kernel
theorem dX1_isPlacedFor_8 : decode cX1_isPlacedFor 8 = .ok (.iload_n 1, 1) := by decide +kernel
theorem dX1_isPlacedFor_9 : decode cX1_isPlacedFor 9 = .ok (.if_icmp .ne 19, 3) := by decide +kernel
theorem dX1_isPlacedFor_12 : decode cX1_isPlacedFor 12 = .ok (.aload_n 0, 1) := by decide +kernel
theorem dX1_isPlacedFor_13 : decode cX1_isPlacedFor 13 = .ok (.getfield 13, 3) := by decide +kernel
theorem dX1_isPlacedFor_16 : decode cX1_isPlacedFor 16 = .ok (.iload_n 2, 1) := by decide +kernel
theorem dX1_isPlacedFor_17 : decode cX1_isPlacedFor 17 = .ok (.aaload, 1) := by decide +kernel
theorem dX1_isPlacedFor_18 : decode cX1_isPlacedFor 18 = .ok (.getfield 99, 3) := by decide +kernel
theorem dX1_isPlacedFor_21 : decode cX1_isPlacedFor 21 = .ok (.ifCond .ne 7, 3) := by decide +kernel
theorem dX1_isPlacedFor_24 : decode cX1_isPlacedFor 24 = .ok (.iconst 1, 1) := by decide +kernel
theorem dX1_isPlacedFor_25 : decode cX1_isPlacedFor 25 = .ok (.goto 4, 3) := by decide +kernel
theorem dX1_isPlacedFor_28 : decode cX1_isPlacedFor 28 = .ok (.iconst 0, 1) := by decide +kernel
theorem dX1_isPlacedFor_29 : decode cX1_isPlacedFor 29 = .ok (.ireturn, 1) := by decide +kernel
theorem dX1_placeOfTeam_0 : decode cX1_placeOfTeam 0 = .ok (.aload_n 0, 1) := by decide +kernel
theorem dX1_placeOfTeam_1 : decode cX1_placeOfTeam 1 = .ok (.iload_n 1, 1) := by decide +kernel
theorem dX1_placeOfTeam_2 : decode cX1_placeOfTeam 2 = .ok (.invokevirtual 131, 3) := by decide +kernel
theorem dX1_placeOfTeam_5 : decode cX1_placeOfTeam 5 = .ok (.lstore_n 2, 1) := by decide +kernel
theorem dX1_placeOfTeam_6 : decode cX1_placeOfTeam 6 = .ok (.aload_n 0, 1) := by decide +kernel
theorem dX1_placeOfTeam_7 : decode cX1_placeOfTeam 7 = .ok (.iload_n 1, 1) := by decide +kernel
theorem dX1_placeOfTeam_8 : decode cX1_placeOfTeam 8 = .ok (.invokevirtual 135, 3) := by decide +kernel
theorem dX1_placeOfTeam_11 : decode cX1_placeOfTeam 11 = .ok (.lstore 4, 2) := by decide +kernel
theorem dX1_placeOfTeam_13 : decode cX1_placeOfTeam 13 = .ok (.iconst 1, 1) := by decide +kernel
theorem dX1_placeOfTeam_14 : decode cX1_placeOfTeam 14 = .ok (.istore 6, 2) := by decide +kernel
theorem dX1_placeOfTeam_16 : decode cX1_placeOfTeam 16 = .ok (.iconst 0, 1) := by decide +kernel
theorem dX1_placeOfTeam_17 : decode cX1_placeOfTeam 17 = .ok (.istore 7, 2) := by decide +kernel
theorem dX1_placeOfTeam_19 : decode cX1_placeOfTeam 19 = .ok (.iload 7, 2) := by decide +kernel
theorem dX1_placeOfTeam_21 : decode cX1_placeOfTeam 21 = .ok (.bipush 6, 2) := by decide +kernel
theorem dX1_placeOfTeam_23 : decode cX1_placeOfTeam 23 = .ok (.if_icmp .ge 70, 3) := by decide +kernel
theorem dX1_placeOfTeam_26 : decode cX1_placeOfTeam 26 = .ok (.aload_n 0, 1) := by decide +kernel
theorem dX1_placeOfTeam_27 : decode cX1_placeOfTeam 27 = .ok (.iload 7, 2) := by decide +kernel
theorem dX1_placeOfTeam_29 : decode cX1_placeOfTeam 29 = .ok (.invokevirtual 131, 3) := by decide +kernel
theorem dX1_placeOfTeam_32 : decode cX1_placeOfTeam 32 = .ok (.lstore 8, 2) := by decide +kernel
theorem dX1_placeOfTeam_34 : decode cX1_placeOfTeam 34 = .ok (.lload 8, 2) := by decide +kernel
theorem dX1_placeOfTeam_36 : decode cX1_placeOfTeam 36 = .ok (.lload_n 2, 1) := by decide +kernel
theorem dX1_placeOfTeam_37 : decode cX1_placeOfTeam 37 = .ok (.lcmp, 1) := by decide +kernel
theorem dX1_placeOfTeam_38 : decode cX1_placeOfTeam 38 = .ok (.ifCond .lt 22, 3) := by decide +kernel
theorem dX1_placeOfTeam_41 : decode cX1_placeOfTeam 41 = .ok (.lload 8, 2) := by decide +kernel
theorem dX1_placeOfTeam_43 : decode cX1_placeOfTeam 43 = .ok (.lload_n 2, 1) := by decide +kernel
theorem dX1_placeOfTeam_44 : decode cX1_placeOfTeam 44 = .ok (.lcmp, 1) := by decide +kernel
theorem dX1_placeOfTeam_45 : decode cX1_placeOfTeam 45 = .ok (.ifCond .ne 19, 3) := by decide +kernel
theorem dX1_placeOfTeam_48 : decode cX1_placeOfTeam 48 = .ok (.aload_n 0, 1) := by decide +kernel
theorem dX1_placeOfTeam_49 : decode cX1_placeOfTeam 49 = .ok (.iload 7, 2) := by decide +kernel
theorem dX1_placeOfTeam_51 : decode cX1_placeOfTeam 51 = .ok (.invokevirtual 135, 3) := by decide +kernel
theorem dX1_placeOfTeam_54 : decode cX1_placeOfTeam 54 = .ok (.lload 4, 2) := by decide +kernel
theorem dX1_placeOfTeam_56 : decode cX1_placeOfTeam 56 = .ok (.lcmp, 1) := by decide +kernel
theorem dX1_placeOfTeam_57 : decode cX1_placeOfTeam 57 = .ok (.ifCond .ge 7, 3) := by decide +kernel
theorem dX1_placeOfTeam_60 : decode cX1_placeOfTeam 60 = .ok (.iconst 1, 1) := by decide +kernel
theorem dX1_placeOfTeam_61 : decode cX1_placeOfTeam 61 = .ok (.goto 4, 3) := by decide +kernel
theorem dX1_placeOfTeam_64 : decode cX1_placeOfTeam 64 = .ok (.iconst 0, 1) := by decide +kernel
theorem dX1_placeOfTeam_65 : decode cX1_placeOfTeam 65 = .ok (.istore 10, 2) := by decide +kernel
theorem dX1_placeOfTeam_67 : decode cX1_placeOfTeam 67 = .ok (.aload_n 0, 1) := by decide +kernel
theorem dX1_placeOfTeam_68 : decode cX1_placeOfTeam 68 = .ok (.getfield 19, 3) := by decide +kernel
theorem dX1_placeOfTeam_71 : decode cX1_placeOfTeam 71 = .ok (.iload 7, 2) := by decide +kernel
theorem dX1_placeOfTeam_73 : decode cX1_placeOfTeam 73 = .ok (.invokevirtual 138, 3) := by decide +kernel
theorem dX1_placeOfTeam_76 : decode cX1_placeOfTeam 76 = .ok (.ifCond .le 11, 3) := by decide +kernel
theorem dX1_placeOfTeam_79 : decode cX1_placeOfTeam 79 = .ok (.iload 10, 2) := by decide +kernel
theorem dX1_placeOfTeam_81 : decode cX1_placeOfTeam 81 = .ok (.ifCond .eq 6, 3) := by decide +kernel
theorem dX1_placeOfTeam_84 : decode cX1_placeOfTeam 84 = .ok (.iinc 6 1, 3) := by decide +kernel
theorem dX1_placeOfTeam_87 : decode cX1_placeOfTeam 87 = .ok (.iinc 7 1, 3) := by decide +kernel
theorem dX1_placeOfTeam_90 : decode cX1_placeOfTeam 90 = .ok (.goto (-71), 3) := by decide +kernel
theorem dX1_placeOfTeam_93 : decode cX1_placeOfTeam 93 = .ok (.iload 6, 2) := by decide +kernel
theorem dX1_placeOfTeam_95 : decode cX1_placeOfTeam 95 = .ok (.ireturn, 1) := by decide +kernel
theorem dX2_init_0 : decode cX2_init 0 = .ok (.aload_n 0, 1) := by decide +kernel
theorem dX2_init_1 : decode cX2_init 1 = .ok (.invokespecial 3, 3) := by decide +kernel
theorem dX2_init_4 : decode cX2_init 4 = .ok (.aload_n 0, 1) := by decide +kernel
theorem dX2_init_5 : decode cX2_init 5 = .ok (.bipush 32, 2) := by decide +kernel
theorem dX2_init_7 : decode cX2_init 7 = .ok (.newarray .int, 2) := by decide +kernel
theorem dX2_init_9 : decode cX2_init 9 = .ok (.putfield 11, 3) := by decide +kernel
theorem dX2_init_12 : decode cX2_init 12 = .ok (.aload_n 0, 1) := by decide +kernel
theorem dX2_init_13 : decode cX2_init 13 = .ok (.bipush 30, 2) := by decide +kernel
theorem dX2_init_15 : decode cX2_init 15 = .ok (.newarray .int, 2) := by decide +kernel
theorem dX2_init_17 : decode cX2_init 17 = .ok (.putfield 15, 3) := by decide +kernel
theorem dX2_init_20 : decode cX2_init 20 = .ok (.aload_n 0, 1) := by decide +kernel
theorem dX2_init_21 : decode cX2_init 21 = .ok (.sipush 500, 3) := by decide +kernel
theorem dX2_init_24 : decode cX2_init 24 = .ok (.putfield 18, 3) := by decide +kernel
theorem dX2_init_27 : decode cX2_init 27 = .ok (.return_, 1) := by decide +kernel
theorem dX2_addFence_0 : decode cX2_addFence 0 = .ok (.aload_n 0, 1) := by decide +kernel
theorem dX2_addFence_1 : decode cX2_addFence 1 = .ok (.getfield 22, 3) := by decide +kernel
theorem dX2_addFence_4 : decode cX2_addFence 4 = .ok (.bipush 30, 2) := by decide +kernel
theorem dX2_addFence_6 : decode cX2_addFence 6 = .ok (.if_icmp .ge 14, 3) := by decide +kernel
theorem dX2_addFence_9 : decode cX2_addFence 9 = .ok (.iload_n 1, 1) := by decide +kernel
theorem dX2_addFence_10 : decode cX2_addFence 10 = .ok (.iconst 0, 1) := by decide +kernel
theorem dX2_addFence_11 : decode cX2_addFence 11 = .ok (.sipush 2000, 3) := by decide +kernel
theorem dX2_addFence_14 : decode cX2_addFence 14 = .ok (.invokestatic 25, 3) := by decide +kernel
theorem dX2_addFence_17 : decode cX2_addFence 17 = .ok (.ifCond .ne 5, 3) := by decide +kernel
theorem dX2_addFence_20 : decode cX2_addFence 20 = .ok (.iconst (-1), 1) := by decide +kernel
theorem dX2_addFence_21 : decode cX2_addFence 21 = .ok (.ireturn, 1) := by decide +kernel
theorem dX2_addFence_22 : decode cX2_addFence 22 = .ok (.aload_n 0, 1) := by decide +kernel
theorem dX2_addFence_23 : decode cX2_addFence 23 = .ok (.getfield 15, 3) := by decide +kernel
theorem dX2_addFence_26 : decode cX2_addFence 26 = .ok (.aload_n 0, 1) := by decide +kernel
theorem dX2_addFence_27 : decode cX2_addFence 27 = .ok (.getfield 22, 3) := by decide +kernel
theorem dX2_addFence_30 : decode cX2_addFence 30 = .ok (.iconst (-1), 1) := by decide +kernel
theorem dX2_addFence_31 : decode cX2_addFence 31 = .ok (.iastore, 1) := by decide +kernel
theorem dX2_addFence_32 : decode cX2_addFence 32 = .ok (.aload_n 0, 1) := by decide +kernel
theorem dX2_addFence_33 : decode cX2_addFence 33 = .ok (.dup, 1) := by decide +kernel
theorem dX2_addFence_34 : decode cX2_addFence 34 = .ok (.getfield 22, 3) := by decide +kernel
theorem dX2_addFence_37 : decode cX2_addFence 37 = .ok (.iconst 1, 1) := by decide +kernel
theorem dX2_addFence_38 : decode cX2_addFence 38 = .ok (.iadd, 1) := by decide +kernel
theorem dX2_addFence_39 : decode cX2_addFence 39 = .ok (.putfield 22, 3) := by decide +kernel
theorem dX2_addFence_42 : decode cX2_addFence 42 = .ok (.aload_n 0, 1) := by decide +kernel
theorem dX2_addFence_43 : decode cX2_addFence 43 = .ok (.dup, 1) := by decide +kernel
theorem dX2_addFence_44 : decode cX2_addFence 44 = .ok (.getfield 29, 3) := by decide +kernel
theorem dX2_addFence_47 : decode cX2_addFence 47 = .ok (.iload_n 1, 1) := by decide +kernel
theorem dX2_addFence_48 : decode cX2_addFence 48 = .ok (.iadd, 1) := by decide +kernel
theorem dX2_addFence_49 : decode cX2_addFence 49 = .ok (.putfield 29, 3) := by decide +kernel
theorem dX2_addFence_52 : decode cX2_addFence 52 = .ok (.aload_n 0, 1) := by decide +kernel
theorem dX2_addFence_53 : decode cX2_addFence 53 = .ok (.invokevirtual 32, 3) := by decide +kernel
theorem dX2_addFence_56 : decode cX2_addFence 56 = .ok (.aload_n 0, 1) := by decide +kernel
theorem dX2_addFence_57 : decode cX2_addFence 57 = .ok (.getfield 22, 3) := by decide +kernel
theorem dX2_addFence_60 : decode cX2_addFence 60 = .ok (.ireturn, 1) := by decide +kernel
theorem dX2_measure_0 : decode cX2_measure 0 = .ok (.iload_n 1, 1) := by decide +kernel
theorem dX2_measure_1 : decode cX2_measure 1 = .ok (.iconst 0, 1) := by decide +kernel
theorem dX2_measure_2 : decode cX2_measure 2 = .ok (.sipush 2000, 3) := by decide +kernel
theorem dX2_measure_5 : decode cX2_measure 5 = .ok (.invokestatic 25, 3) := by decide +kernel
theorem dX2_measure_8 : decode cX2_measure 8 = .ok (.ifCond .eq 15, 3) := by decide +kernel
theorem dX2_measure_11 : decode cX2_measure 11 = .ok (.iload_n 2, 1) := by decide +kernel
theorem dX2_measure_12 : decode cX2_measure 12 = .ok (.bipush 100, 2) := by decide +kernel
theorem dX2_measure_14 : decode cX2_measure 14 = .ok (.sipush 700, 3) := by decide +kernel
theorem dX2_measure_17 : decode cX2_measure 17 = .ok (.invokestatic 25, 3) := by decide +kernel
theorem dX2_measure_20 : decode cX2_measure 20 = .ok (.ifCond .ne 5, 3) := by decide +kernel
theorem dX2_measure_23 : decode cX2_measure 23 = .ok (.iconst (-1), 1) := by decide +kernel
theorem dX2_measure_24 : decode cX2_measure 24 = .ok (.ireturn, 1) := by decide +kernel
theorem dX2_measure_25 : decode cX2_measure 25 = .ok (.aload_n 0, 1) := by decide +kernel
theorem dX2_measure_26 : decode cX2_measure 26 = .ok (.iload_n 1, 1) := by decide +kernel
theorem dX2_measure_27 : decode cX2_measure 27 = .ok (.putfield 35, 3) := by decide +kernel
theorem dX2_measure_30 : decode cX2_measure 30 = .ok (.aload_n 0, 1) := by decide +kernel
theorem dX2_measure_31 : decode cX2_measure 31 = .ok (.iload_n 2, 1) := by decide +kernel
theorem dX2_measure_32 : decode cX2_measure 32 = .ok (.putfield 18, 3) := by decide +kernel
theorem dX2_measure_35 : decode cX2_measure 35 = .ok (.aload_n 0, 1) := by decide +kernel
theorem dX2_measure_36 : decode cX2_measure 36 = .ok (.invokevirtual 32, 3) := by decide +kernel
theorem dX2_measure_39 : decode cX2_measure 39 = .ok (.aload_n 0, 1) := by decide +kernel
theorem dX2_measure_40 : decode cX2_measure 40 = .ok (.getfield 38, 3) := by decide +kernel
theorem dX2_measure_43 : decode cX2_measure 43 = .ok (.ireturn, 1) := by decide +kernel
theorem dX2_setOptimum_0 : decode cX2_setOptimum 0 = .ok (.aload_n 0, 1) := by decide +kernel
theorem dX2_setOptimum_1 : decode cX2_setOptimum 1 = .ok (.aload_n 0, 1) := by decide +kernel
theorem dX2_setOptimum_2 : decode cX2_setOptimum 2 = .ok (.getfield 18, 3) := by decide +kernel
theorem dX2_setOptimum_5 : decode cX2_setOptimum 5 = .ok (.iconst 1, 1) := by decide +kernel
theorem dX2_setOptimum_6 : decode cX2_setOptimum 6 = .ok (.if_icmp .ge 7, 3) := by decide +kernel
theorem dX2_setOptimum_9 : decode cX2_setOptimum 9 = .ok (.iconst 0, 1) := by decide +kernel
theorem dX2_setOptimum_10 : decode cX2_setOptimum 10 = .ok (.goto 27, 3) := by decide +kernel
theorem dX2_setOptimum_13 : decode cX2_setOptimum 13 = .ok (.bipush 60, 2) := by decide +kernel
theorem dX2_setOptimum_15 : decode cX2_setOptimum 15 = .ok (.aload_n 0, 1) := by decide +kernel
theorem dX2_setOptimum_16 : decode cX2_setOptimum 16 = .ok (.getfield 29, 3) := by decide +kernel
theorem dX2_setOptimum_19 : decode cX2_setOptimum 19 = .ok (.aload_n 0, 1) := by decide +kernel
theorem dX2_setOptimum_20 : decode cX2_setOptimum 20 = .ok (.getfield 35, 3) := by decide +kernel
theorem dX2_setOptimum_23 : decode cX2_setOptimum 23 = .ok (.iadd, 1) := by decide +kernel
theorem dX2_setOptimum_24 : decode cX2_setOptimum 24 = .ok (.imul, 1) := by decide +kernel
theorem dX2_setOptimum_25 : decode cX2_setOptimum 25 = .ok (.aload_n 0, 1) := by decide +kernel
theorem dX2_setOptimum_26 : decode cX2_setOptimum 26 = .ok (.getfield 18, 3) := by decide +kernel
theorem dX2_setOptimum_29 : decode cX2_setOptimum 29 = .ok (.iadd, 1) := by decide +kernel
theorem dX2_setOptimum_30 : decode cX2_setOptimum 30 = .ok (.iconst 1, 1) := by decide +kernel
theorem dX2_setOptimum_31 : decode cX2_setOptimum 31 = .ok (.isub, 1) := by decide +kernel
theorem dX2_setOptimum_32 : decode cX2_setOptimum 32 = .ok (.aload_n 0, 1) := by decide +kernel
theorem dX2_setOptimum_33 : decode cX2_setOptimum 33 = .ok (.getfield 18, 3) := by decide +kernel
theorem dX2_setOptimum_36 : decode cX2_setOptimum 36 = .ok (.idiv, 1) := by decide +kernel
theorem dX2_setOptimum_37 : decode cX2_setOptimum 37 = .ok (.putfield 38, 3) := by decide +kernel
theorem dX2_setOptimum_40 : decode cX2_setOptimum 40 = .ok (.return_, 1) := by decide +kernel
theorem dX2_setClock_0 : decode cX2_setClock 0 = .ok (.iload_n 1, 1) := by decide +kernel
theorem dX2_setClock_1 : decode cX2_setClock 1 = .ok (.iconst 0, 1) := by decide +kernel
theorem dX2_setClock_2 : decode cX2_setClock 2 = .ok (.iconst 2, 1) := by decide +kernel
theorem dX2_setClock_3 : decode cX2_setClock 3 = .ok (.aload_n 0, 1) := by decide +kernel
theorem dX2_setClock_4 : decode cX2_setClock 4 = .ok (.getfield 22, 3) := by decide +kernel
theorem dX2_setClock_7 : decode cX2_setClock 7 = .ok (.iadd, 1) := by decide +kernel
theorem dX2_setClock_8 : decode cX2_setClock 8 = .ok (.iconst 1, 1) := by decide +kernel
theorem dX2_setClock_9 : decode cX2_setClock 9 = .ok (.isub, 1) := by decide +kernel
theorem dX2_setClock_10 : decode cX2_setClock 10 = .ok (.invokestatic 25, 3) := by decide +kernel
theorem dX2_setClock_13 : decode cX2_setClock 13 = .ok (.ifCond .eq 16, 3) := by decide +kernel
theorem dX2_setClock_16 : decode cX2_setClock 16 = .ok (.iload_n 2, 1) := by decide +kernel
theorem dX2_setClock_17 : decode cX2_setClock 17 = .ok (.sipush (-600), 3) := by decide +kernel
theorem dX2_setClock_20 : decode cX2_setClock 20 = .ok (.sipush 600, 3) := by decide +kernel
theorem dX2_setClock_23 : decode cX2_setClock 23 = .ok (.invokestatic 25, 3) := by decide +kernel
theorem dX2_setClock_26 : decode cX2_setClock 26 = .ok (.ifCond .ne 5, 3) := by decide +kernel
theorem dX2_setClock_29 : decode cX2_setClock 29 = .ok (.iconst 0, 1) := by decide +kernel
theorem dX2_setClock_30 : decode cX2_setClock 30 = .ok (.ireturn, 1) := by decide +kernel
theorem dX2_setClock_31 : decode cX2_setClock 31 = .ok (.aload_n 0, 1) := by decide +kernel
theorem dX2_setClock_32 : decode cX2_setClock 32 = .ok (.getfield 11, 3) := by decide +kernel
theorem dX2_setClock_35 : decode cX2_setClock 35 = .ok (.iload_n 1, 1) := by decide +kernel
theorem dX2_setClock_36 : decode cX2_setClock 36 = .ok (.iload_n 2, 1) := by decide +kernel
theorem dX2_setClock_37 : decode cX2_setClock 37 = .ok (.iastore, 1) := by decide +kernel
theorem dX2_setClock_38 : decode cX2_setClock 38 = .ok (.iconst 1, 1) := by decide +kernel
theorem dX2_setClock_39 : decode cX2_setClock 39 = .ok (.ireturn, 1) := by decide +kernel
theorem dX2_takeOut_0 : decode cX2_takeOut 0 = .ok (.aload_n 0, 1) := by decide +kernel
theorem dX2_takeOut_1 : decode cX2_takeOut 1 = .ok (.iload_n 1, 1) := by decide +kernel
theorem dX2_takeOut_2 : decode cX2_takeOut 2 = .ok (.invokevirtual 41, 3) := by decide +kernel
theorem dX2_takeOut_5 : decode cX2_takeOut 5 = .ok (.ifCond .eq 13, 3) := by decide +kernel
theorem dX2_takeOut_8 : decode cX2_takeOut 8 = .ok (.iload_n 2, 1) := by decide +kernel
theorem dX2_takeOut_9 : decode cX2_takeOut 9 = .ok (.iconst (-1), 1) := by decide +kernel
theorem dX2_takeOut_10 : decode cX2_takeOut 10 = .ok (.ldc 45, 2) := by decide +kernel
theorem dX2_takeOut_12 : decode cX2_takeOut 12 = .ok (.invokestatic 25, 3) := by decide +kernel
theorem dX2_takeOut_15 : decode cX2_takeOut 15 = .ok (.ifCond .ne 5, 3) := by decide +kernel
theorem dX2_takeOut_18 : decode cX2_takeOut 18 = .ok (.iconst 0, 1) := by decide +kernel
theorem dX2_takeOut_19 : decode cX2_takeOut 19 = .ok (.ireturn, 1) := by decide +kernel
theorem dX2_takeOut_20 : decode cX2_takeOut 20 = .ok (.aload_n 0, 1) := by decide +kernel
theorem dX2_takeOut_21 : decode cX2_takeOut 21 = .ok (.getfield 15, 3) := by decide +kernel
theorem dX2_takeOut_24 : decode cX2_takeOut 24 = .ok (.iload_n 1, 1) := by decide +kernel
theorem dX2_takeOut_25 : decode cX2_takeOut 25 = .ok (.iload_n 2, 1) := by decide +kernel
theorem dX2_takeOut_26 : decode cX2_takeOut 26 = .ok (.iastore, 1) := by decide +kernel
theorem dX2_takeOut_27 : decode cX2_takeOut 27 = .ok (.iconst 1, 1) := by decide +kernel
theorem dX2_takeOut_28 : decode cX2_takeOut 28 = .ok (.ireturn, 1) := by decide +kernel
theorem dX2_hasFence_0 : decode cX2_hasFence 0 = .ok (.iload_n 1, 1) := by decide +kernel
theorem dX2_hasFence_1 : decode cX2_hasFence 1 = .ok (.iconst 0, 1) := by decide +kernel
theorem dX2_hasFence_2 : decode cX2_hasFence 2 = .ok (.aload_n 0, 1) := by decide +kernel
theorem dX2_hasFence_3 : decode cX2_hasFence 3 = .ok (.getfield 22, 3) := by decide +kernel
theorem dX2_hasFence_6 : decode cX2_hasFence 6 = .ok (.iconst 1, 1) := by decide +kernel
theorem dX2_hasFence_7 : decode cX2_hasFence 7 = .ok (.isub, 1) := by decide +kernel
theorem dX2_hasFence_8 : decode cX2_hasFence 8 = .ok (.invokestatic 25, 3) := by decide +kernel
theorem dX2_hasFence_11 : decode cX2_hasFence 11 = .ok (.ireturn, 1) := by decide +kernel
theorem dX2_putRight_0 : decode cX2_putRight 0 = .ok (.iload_n 1, 1) := by decide +kernel
theorem dX2_putRight_1 : decode cX2_putRight 1 = .ok (.iconst 0, 1) := by decide +kernel
theorem dX2_putRight_2 : decode cX2_putRight 2 = .ok (.aload_n 0, 1) := by decide +kernel
theorem dX2_putRight_3 : decode cX2_putRight 3 = .ok (.getfield 11, 3) := by decide +kernel
theorem dX2_putRight_6 : decode cX2_putRight 6 = .ok (.arraylength, 1) := by decide +kernel
theorem dX2_putRight_7 : decode cX2_putRight 7 = .ok (.iconst 1, 1) := by decide +kernel
theorem dX2_putRight_8 : decode cX2_putRight 8 = .ok (.isub, 1) := by decide +kernel
theorem dX2_putRight_9 : decode cX2_putRight 9 = .ok (.invokestatic 25, 3) := by decide +kernel
theorem dX2_putRight_12 : decode cX2_putRight 12 = .ok (.ifCond .eq 14, 3) := by decide +kernel
theorem dX2_putRight_15 : decode cX2_putRight 15 = .ok (.iload_n 2, 1) := by decide +kernel
theorem dX2_putRight_16 : decode cX2_putRight 16 = .ok (.aload_n 0, 1) := by decide +kernel
theorem dX2_putRight_17 : decode cX2_putRight 17 = .ok (.getfield 11, 3) := by decide +kernel
theorem dX2_putRight_20 : decode cX2_putRight 20 = .ok (.iload_n 1, 1) := by decide +kernel
theorem dX2_putRight_21 : decode cX2_putRight 21 = .ok (.iaload, 1) := by decide +kernel
theorem dX2_putRight_22 : decode cX2_putRight 22 = .ok (.isub, 1) := by decide +kernel
theorem dX2_putRight_23 : decode cX2_putRight 23 = .ok (.goto 4, 3) := by decide +kernel
theorem dX2_putRight_26 : decode cX2_putRight 26 = .ok (.iload_n 2, 1) := by decide +kernel
theorem dX2_putRight_27 : decode cX2_putRight 27 = .ok (.ireturn, 1) := by decide +kernel
theorem dX2_isFenceFor_0 : decode cX2_isFenceFor 0 = .ok (.aload_n 0, 1) := by decide +kernel
theorem dX2_isFenceFor_1 : decode cX2_isFenceFor 1 = .ok (.iload_n 2, 1) := by decide +kernel
theorem dX2_isFenceFor_2 : decode cX2_isFenceFor 2 = .ok (.invokevirtual 41, 3) := by decide +kernel
theorem dX2_isFenceFor_5 : decode cX2_isFenceFor 5 = .ok (.ifCond .eq 37, 3) := by decide +kernel
theorem dX2_isFenceFor_8 : decode cX2_isFenceFor 8 = .ok (.aload_n 0, 1) := by decide +kernel
theorem dX2_isFenceFor_9 : decode cX2_isFenceFor 9 = .ok (.getfield 15, 3) := by decide +kernel
theorem dX2_isFenceFor_12 : decode cX2_isFenceFor 12 = .ok (.iload_n 2, 1) := by decide +kernel
theorem dX2_isFenceFor_13 : decode cX2_isFenceFor 13 = .ok (.iaload, 1) := by decide +kernel
theorem dX2_isFenceFor_14 : decode cX2_isFenceFor 14 = .ok (.iconst (-1), 1) := by decide +kernel
theorem dX2_isFenceFor_15 : decode cX2_isFenceFor 15 = .ok (.if_icmp .eq 23, 3) := by decide +kernel
theorem dX2_isFenceFor_18 : decode cX2_isFenceFor 18 = .ok (.aload_n 1, 1) := by decide +kernel
theorem dX2_isFenceFor_19 : decode cX2_isFenceFor 19 = .ok (.getfield 46, 3) := by decide +kernel
theorem dX2_isFenceFor_22 : decode cX2_isFenceFor 22 = .ok (.ifCond .eq 16, 3) := by decide +kernel
theorem dX2_isFenceFor_25 : decode cX2_isFenceFor 25 = .ok (.aload_n 1, 1) := by decide +kernel
theorem dX2_isFenceFor_26 : decode cX2_isFenceFor 26 = .ok (.getfield 52, 3) := by decide +kernel
theorem dX2_isFenceFor_29 : decode cX2_isFenceFor 29 = .ok (.aload_n 0, 1) := by decide +kernel
theorem dX2_isFenceFor_30 : decode cX2_isFenceFor 30 = .ok (.getfield 15, 3) := by decide +kernel
theorem dX2_isFenceFor_33 : decode cX2_isFenceFor 33 = .ok (.iload_n 2, 1) := by decide +kernel
theorem dX2_isFenceFor_34 : decode cX2_isFenceFor 34 = .ok (.iaload, 1) := by decide +kernel
theorem dX2_isFenceFor_35 : decode cX2_isFenceFor 35 = .ok (.if_icmp .ge 7, 3) := by decide +kernel
theorem dX2_isFenceFor_38 : decode cX2_isFenceFor 38 = .ok (.iconst 1, 1) := by decide +kernel
theorem dX2_isFenceFor_39 : decode cX2_isFenceFor 39 = .ok (.goto 4, 3) := by decide +kernel
theorem dX2_isFenceFor_42 : decode cX2_isFenceFor 42 = .ok (.iconst 0, 1) := by decide +kernel
theorem dX2_isFenceFor_43 : decode cX2_isFenceFor 43 = .ok (.ireturn, 1) := by decide +kernel
theorem dX3_init_0 : decode cX3_init 0 = .ok (.aload_n 0, 1) := by decide +kernel
theorem dX3_init_1 : decode cX3_init 1 = .ok (.invokespecial 3, 3) := by decide +kernel
theorem dX3_init_4 : decode cX3_init 4 = .ok (.aload_n 0, 1) := by decide +kernel
theorem dX3_init_5 : decode cX3_init 5 = .ok (.sipush 401, 3) := by decide +kernel
theorem dX3_init_8 : decode cX3_init 8 = .ok (.anewarray 11, 3) := by decide +kernel
theorem dX3_init_11 : decode cX3_init 11 = .ok (.putfield 13, 3) := by decide +kernel
theorem dX3_init_14 : decode cX3_init 14 = .ok (.aload_n 0, 1) := by decide +kernel
theorem dX3_init_15 : decode cX3_init 15 = .ok (.bipush 24, 2) := by decide +kernel
theorem dX3_init_17 : decode cX3_init 17 = .ok (.anewarray 11, 3) := by decide +kernel
theorem dX3_init_20 : decode cX3_init 20 = .ok (.putfield 19, 3) := by decide +kernel
theorem dX3_init_23 : decode cX3_init 23 = .ok (.aload_n 0, 1) := by decide +kernel
theorem dX3_init_24 : decode cX3_init 24 = .ok (.bipush 24, 2) := by decide +kernel
theorem dX3_init_26 : decode cX3_init 26 = .ok (.anewarray 11, 3) := by decide +kernel
theorem dX3_init_29 : decode cX3_init 29 = .ok (.putfield 22, 3) := by decide +kernel
theorem dX3_init_32 : decode cX3_init 32 = .ok (.return_, 1) := by decide +kernel
theorem dX3_addReport_0 : decode cX3_addReport 0 = .ok (.aload_n 0, 1) := by decide +kernel
theorem dX3_addReport_1 : decode cX3_addReport 1 = .ok (.getfield 25, 3) := by decide +kernel
theorem dX3_addReport_4 : decode cX3_addReport 4 = .ok (.sipush 400, 3) := by decide +kernel
theorem dX3_addReport_7 : decode cX3_addReport 7 = .ok (.if_icmp .ge 13, 3) := by decide +kernel
theorem dX3_addReport_10 : decode cX3_addReport 10 = .ok (.iload_n 1, 1) := by decide +kernel
theorem dX3_addReport_11 : decode cX3_addReport 11 = .ok (.iconst 0, 1) := by decide +kernel
theorem dX3_addReport_12 : decode cX3_addReport 12 = .ok (.bipush 23, 2) := by decide +kernel
theorem dX3_addReport_14 : decode cX3_addReport 14 = .ok (.invokestatic 29, 3) := by decide +kernel
theorem dX3_addReport_17 : decode cX3_addReport 17 = .ok (.ifCond .ne 5, 3) := by decide +kernel
theorem dX3_addReport_20 : decode cX3_addReport 20 = .ok (.iconst (-1), 1) := by decide +kernel
theorem dX3_addReport_21 : decode cX3_addReport 21 = .ok (.ireturn, 1) := by decide +kernel
theorem dX3_addReport_22 : decode cX3_addReport 22 = .ok (.new 11, 3) := by decide +kernel
theorem dX3_addReport_25 : decode cX3_addReport 25 = .ok (.dup, 1) := by decide +kernel
theorem dX3_addReport_26 : decode cX3_addReport 26 = .ok (.iload_n 1, 1) := by decide +kernel
theorem dX3_addReport_27 : decode cX3_addReport 27 = .ok (.iload_n 2, 1) := by decide +kernel
theorem dX3_addReport_28 : decode cX3_addReport 28 = .ok (.iload_n 3, 1) := by decide +kernel
theorem dX3_addReport_29 : decode cX3_addReport 29 = .ok (.iload 4, 2) := by decide +kernel
theorem dX3_addReport_31 : decode cX3_addReport 31 = .ok (.iload 5, 2) := by decide +kernel
theorem dX3_addReport_33 : decode cX3_addReport 33 = .ok (.invokespecial 33, 3) := by decide +kernel
theorem dX3_addReport_36 : decode cX3_addReport 36 = .ok (.astore 6, 2) := by decide +kernel
theorem dX3_addReport_38 : decode cX3_addReport 38 = .ok (.aload_n 0, 1) := by decide +kernel
theorem dX3_addReport_39 : decode cX3_addReport 39 = .ok (.aload 6, 2) := by decide +kernel
theorem dX3_addReport_41 : decode cX3_addReport 41 = .ok (.invokevirtual 36, 3) := by decide +kernel
theorem dX3_addReport_44 : decode cX3_addReport 44 = .ok (.aload_n 0, 1) := by decide +kernel
theorem dX3_addReport_45 : decode cX3_addReport 45 = .ok (.getfield 22, 3) := by decide +kernel
theorem dX3_addReport_48 : decode cX3_addReport 48 = .ok (.iload_n 1, 1) := by decide +kernel
theorem dX3_addReport_49 : decode cX3_addReport 49 = .ok (.aaload, 1) := by decide +kernel
theorem dX3_addReport_50 : decode cX3_addReport 50 = .ok (.astore 7, 2) := by decide +kernel
theorem dX3_addReport_52 : decode cX3_addReport 52 = .ok (.aload 7, 2) := by decide +kernel
theorem dX3_addReport_54 : decode cX3_addReport 54 = .ok (.ifnonnull 14, 3) := by decide +kernel
theorem dX3_addReport_57 : decode cX3_addReport 57 = .ok (.aload_n 0, 1) := by decide +kernel
theorem dX3_addReport_58 : decode cX3_addReport 58 = .ok (.getfield 19, 3) := by decide +kernel
theorem dX3_addReport_61 : decode cX3_addReport 61 = .ok (.iload_n 1, 1) := by decide +kernel
theorem dX3_addReport_62 : decode cX3_addReport 62 = .ok (.aload 6, 2) := by decide +kernel
theorem dX3_addReport_64 : decode cX3_addReport 64 = .ok (.aastore, 1) := by decide +kernel
theorem dX3_addReport_65 : decode cX3_addReport 65 = .ok (.goto 10, 3) := by decide +kernel
theorem dX3_addReport_68 : decode cX3_addReport 68 = .ok (.aload 7, 2) := by decide +kernel
theorem dX3_addReport_70 : decode cX3_addReport 70 = .ok (.aload 6, 2) := by decide +kernel
theorem dX3_addReport_72 : decode cX3_addReport 72 = .ok (.putfield 40, 3) := by decide +kernel
theorem dX3_addReport_75 : decode cX3_addReport 75 = .ok (.aload_n 0, 1) := by decide +kernel
theorem dX3_addReport_76 : decode cX3_addReport 76 = .ok (.getfield 22, 3) := by decide +kernel
theorem dX3_addReport_79 : decode cX3_addReport 79 = .ok (.iload_n 1, 1) := by decide +kernel
theorem dX3_addReport_80 : decode cX3_addReport 80 = .ok (.aload 6, 2) := by decide +kernel
theorem dX3_addReport_82 : decode cX3_addReport 82 = .ok (.aastore, 1) := by decide +kernel
theorem dX3_addReport_83 : decode cX3_addReport 83 = .ok (.aload_n 0, 1) := by decide +kernel
theorem dX3_addReport_84 : decode cX3_addReport 84 = .ok (.getfield 25, 3) := by decide +kernel
theorem dX3_addReport_87 : decode cX3_addReport 87 = .ok (.ireturn, 1) := by decide +kernel
theorem dX3_addStrike_0 : decode cX3_addStrike 0 = .ok (.aload_n 0, 1) := by decide +kernel
theorem dX3_addStrike_1 : decode cX3_addStrike 1 = .ok (.iload_n 1, 1) := by decide +kernel
theorem dX3_addStrike_2 : decode cX3_addStrike 2 = .ok (.invokevirtual 44, 3) := by decide +kernel
theorem dX3_addStrike_5 : decode cX3_addStrike 5 = .ok (.astore_n 2, 1) := by decide +kernel
theorem dX3_addStrike_6 : decode cX3_addStrike 6 = .ok (.aload_n 0, 1) := by decide +kernel
theorem dX3_addStrike_7 : decode cX3_addStrike 7 = .ok (.getfield 25, 3) := by decide +kernel
theorem dX3_addStrike_10 : decode cX3_addStrike 10 = .ok (.sipush 400, 3) := by decide +kernel
theorem dX3_addStrike_13 : decode cX3_addStrike 13 = .ok (.if_icmp .ge 24, 3) := by decide +kernel
theorem dX3_addStrike_16 : decode cX3_addStrike 16 = .ok (.aload_n 2, 1) := by decide +kernel
theorem dX3_addStrike_17 : decode cX3_addStrike 17 = .ok (.ifnull 20, 3) := by decide +kernel
theorem dX3_addStrike_20 : decode cX3_addStrike 20 = .ok (.aload_n 2, 1) := by decide +kernel
theorem dX3_addStrike_21 : decode cX3_addStrike 21 = .ok (.getfield 48, 3) := by decide +kernel
theorem dX3_addStrike_24 : decode cX3_addStrike 24 = .ok (.bipush 12, 2) := by decide +kernel
theorem dX3_addStrike_26 : decode cX3_addStrike 26 = .ok (.if_icmp .eq 11, 3) := by decide +kernel
theorem dX3_addStrike_29 : decode cX3_addStrike 29 = .ok (.aload_n 2, 1) := by decide +kernel
theorem dX3_addStrike_30 : decode cX3_addStrike 30 = .ok (.getfield 51, 3) := by decide +kernel
theorem dX3_addStrike_33 : decode cX3_addStrike 33 = .ok (.iconst (-1), 1) := by decide +kernel
theorem dX3_addStrike_34 : decode cX3_addStrike 34 = .ok (.if_icmp .eq 5, 3) := by decide +kernel
theorem dX3_addStrike_37 : decode cX3_addStrike 37 = .ok (.iconst (-1), 1) := by decide +kernel
theorem dX3_addStrike_38 : decode cX3_addStrike 38 = .ok (.ireturn, 1) := by decide +kernel
theorem dX3_addStrike_39 : decode cX3_addStrike 39 = .ok (.aload_n 0, 1) := by decide +kernel
theorem dX3_addStrike_40 : decode cX3_addStrike 40 = .ok (.new 11, 3) := by decide +kernel
theorem dX3_addStrike_43 : decode cX3_addStrike 43 = .ok (.dup, 1) := by decide +kernel
theorem dX3_addStrike_44 : decode cX3_addStrike 44 = .ok (.aload_n 2, 1) := by decide +kernel
theorem dX3_addStrike_45 : decode cX3_addStrike 45 = .ok (.getfield 54, 3) := by decide +kernel
theorem dX3_addStrike_48 : decode cX3_addStrike 48 = .ok (.bipush 12, 2) := by decide +kernel
theorem dX3_addStrike_50 : decode cX3_addStrike 50 = .ok (.iconst (-1), 1) := by decide +kernel
theorem dX3_addStrike_51 : decode cX3_addStrike 51 = .ok (.iconst 0, 1) := by decide +kernel
theorem dX3_addStrike_52 : decode cX3_addStrike 52 = .ok (.iconst 0, 1) := by decide +kernel
theorem dX3_addStrike_53 : decode cX3_addStrike 53 = .ok (.invokespecial 33, 3) := by decide +kernel
theorem dX3_addStrike_56 : decode cX3_addStrike 56 = .ok (.invokevirtual 36, 3) := by decide +kernel
theorem dX3_addStrike_59 : decode cX3_addStrike 59 = .ok (.aload_n 2, 1) := by decide +kernel
theorem dX3_addStrike_60 : decode cX3_addStrike 60 = .ok (.aload_n 0, 1) := by decide +kernel
theorem dX3_addStrike_61 : decode cX3_addStrike 61 = .ok (.getfield 25, 3) := by decide +kernel
theorem dX3_addStrike_64 : decode cX3_addStrike 64 = .ok (.putfield 51, 3) := by decide +kernel
theorem dX3_addStrike_67 : decode cX3_addStrike 67 = .ok (.aload_n 0, 1) := by decide +kernel
theorem dX3_addStrike_68 : decode cX3_addStrike 68 = .ok (.getfield 25, 3) := by decide +kernel
theorem dX3_addStrike_71 : decode cX3_addStrike 71 = .ok (.ireturn, 1) := by decide +kernel
theorem dX3_write_0 : decode cX3_write 0 = .ok (.aload_n 0, 1) := by decide +kernel
theorem dX3_write_1 : decode cX3_write 1 = .ok (.dup, 1) := by decide +kernel
theorem dX3_write_2 : decode cX3_write 2 = .ok (.getfield 25, 3) := by decide +kernel
theorem dX3_write_5 : decode cX3_write 5 = .ok (.iconst 1, 1) := by decide +kernel
theorem dX3_write_6 : decode cX3_write 6 = .ok (.iadd, 1) := by decide +kernel
theorem dX3_write_7 : decode cX3_write 7 = .ok (.putfield 25, 3) := by decide +kernel
theorem dX3_write_10 : decode cX3_write 10 = .ok (.aload_n 1, 1) := by decide +kernel
theorem dX3_write_11 : decode cX3_write 11 = .ok (.aload_n 0, 1) := by decide +kernel
theorem dX3_write_12 : decode cX3_write 12 = .ok (.getfield 25, 3) := by decide +kernel
theorem dX3_write_15 : decode cX3_write 15 = .ok (.putfield 57, 3) := by decide +kernel
theorem dX3_write_18 : decode cX3_write 18 = .ok (.aload_n 0, 1) := by decide +kernel
theorem dX3_write_19 : decode cX3_write 19 = .ok (.getfield 13, 3) := by decide +kernel
theorem dX3_write_22 : decode cX3_write 22 = .ok (.aload_n 0, 1) := by decide +kernel
theorem dX3_write_23 : decode cX3_write 23 = .ok (.getfield 25, 3) := by decide +kernel
theorem dX3_write_26 : decode cX3_write 26 = .ok (.aload_n 1, 1) := by decide +kernel
theorem dX3_write_27 : decode cX3_write 27 = .ok (.aastore, 1) := by decide +kernel
theorem dX3_write_28 : decode cX3_write 28 = .ok (.return_, 1) := by decide +kernel
theorem dX3_actAt_0 : decode cX3_actAt 0 = .ok (.iload_n 1, 1) := by decide +kernel
theorem dX3_actAt_1 : decode cX3_actAt 1 = .ok (.iconst 1, 1) := by decide +kernel
theorem dX3_actAt_2 : decode cX3_actAt 2 = .ok (.aload_n 0, 1) := by decide +kernel
theorem dX3_actAt_3 : decode cX3_actAt 3 = .ok (.getfield 25, 3) := by decide +kernel
theorem dX3_actAt_6 : decode cX3_actAt 6 = .ok (.invokestatic 29, 3) := by decide +kernel
theorem dX3_actAt_9 : decode cX3_actAt 9 = .ok (.ifCond .eq 12, 3) := by decide +kernel
theorem dX3_actAt_12 : decode cX3_actAt 12 = .ok (.aload_n 0, 1) := by decide +kernel
theorem dX3_actAt_13 : decode cX3_actAt 13 = .ok (.getfield 13, 3) := by decide +kernel
theorem dX3_actAt_16 : decode cX3_actAt 16 = .ok (.iload_n 1, 1) := by decide +kernel
theorem dX3_actAt_17 : decode cX3_actAt 17 = .ok (.aaload, 1) := by decide +kernel
theorem dX3_actAt_18 : decode cX3_actAt 18 = .ok (.goto 4, 3) := by decide +kernel
theorem dX3_actAt_21 : decode cX3_actAt 21 = .ok (.aconst_null, 1) := by decide +kernel
theorem dX3_actAt_22 : decode cX3_actAt 22 = .ok (.areturn, 1) := by decide +kernel
theorem dX3_riderOf_0 : decode cX3_riderOf 0 = .ok (.aload_n 0, 1) := by decide +kernel
theorem dX3_riderOf_1 : decode cX3_riderOf 1 = .ok (.iload_n 1, 1) := by decide +kernel
theorem dX3_riderOf_2 : decode cX3_riderOf 2 = .ok (.invokevirtual 44, 3) := by decide +kernel
theorem dX3_riderOf_5 : decode cX3_riderOf 5 = .ok (.astore_n 2, 1) := by decide +kernel
theorem dX3_riderOf_6 : decode cX3_riderOf 6 = .ok (.aload_n 2, 1) := by decide +kernel
theorem dX3_riderOf_7 : decode cX3_riderOf 7 = .ok (.ifnonnull 7, 3) := by decide +kernel
theorem dX3_riderOf_10 : decode cX3_riderOf 10 = .ok (.iconst (-1), 1) := by decide +kernel
theorem dX3_riderOf_11 : decode cX3_riderOf 11 = .ok (.goto 7, 3) := by decide +kernel
theorem dX3_riderOf_14 : decode cX3_riderOf 14 = .ok (.aload_n 2, 1) := by decide +kernel
theorem dX3_riderOf_15 : decode cX3_riderOf 15 = .ok (.getfield 54, 3) := by decide +kernel
theorem dX3_riderOf_18 : decode cX3_riderOf 18 = .ok (.ireturn, 1) := by decide +kernel
theorem dX3_oldestOf_0 : decode cX3_oldestOf 0 = .ok (.iload_n 1, 1) := by decide +kernel
theorem dX3_oldestOf_1 : decode cX3_oldestOf 1 = .ok (.iconst 0, 1) := by decide +kernel
theorem dX3_oldestOf_2 : decode cX3_oldestOf 2 = .ok (.bipush 23, 2) := by decide +kernel
theorem dX3_oldestOf_4 : decode cX3_oldestOf 4 = .ok (.invokestatic 29, 3) := by decide +kernel
theorem dX3_oldestOf_7 : decode cX3_oldestOf 7 = .ok (.ifCond .eq 12, 3) := by decide +kernel
theorem dX3_oldestOf_10 : decode cX3_oldestOf 10 = .ok (.aload_n 0, 1) := by decide +kernel
theorem dX3_oldestOf_11 : decode cX3_oldestOf 11 = .ok (.getfield 19, 3) := by decide +kernel
theorem dX3_oldestOf_14 : decode cX3_oldestOf 14 = .ok (.iload_n 1, 1) := by decide +kernel
theorem dX3_oldestOf_15 : decode cX3_oldestOf 15 = .ok (.aaload, 1) := by decide +kernel
theorem dX3_oldestOf_16 : decode cX3_oldestOf 16 = .ok (.goto 4, 3) := by decide +kernel
theorem dX3_oldestOf_19 : decode cX3_oldestOf 19 = .ok (.aconst_null, 1) := by decide +kernel
theorem dX3_oldestOf_20 : decode cX3_oldestOf 20 = .ok (.areturn, 1) := by decide +kernel
theorem dX4_init_0 : decode cX4_init 0 = .ok (.aload_n 0, 1) := by decide +kernel
theorem dX4_init_1 : decode cX4_init 1 = .ok (.invokespecial 3, 3) := by decide +kernel
theorem dX4_init_4 : decode cX4_init 4 = .ok (.aload_n 0, 1) := by decide +kernel
theorem dX4_init_5 : decode cX4_init 5 = .ok (.ldc 9, 2) := by decide +kernel
theorem dX4_init_7 : decode cX4_init 7 = .ok (.invokestatic 11, 3) := by decide +kernel
theorem dX4_init_10 : decode cX4_init 10 = .ok (.putfield 17, 3) := by decide +kernel
theorem dX4_init_13 : decode cX4_init 13 = .ok (.aload_n 0, 1) := by decide +kernel
theorem dX4_init_14 : decode cX4_init 14 = .ok (.ldc 21, 2) := by decide +kernel
theorem dX4_init_16 : decode cX4_init 16 = .ok (.invokestatic 11, 3) := by decide +kernel
theorem dX4_init_19 : decode cX4_init 19 = .ok (.putfield 23, 3) := by decide +kernel
theorem dX4_init_22 : decode cX4_init 22 = .ok (.aload_n 0, 1) := by decide +kernel
theorem dX4_init_23 : decode cX4_init 23 = .ok (.ldc 26, 2) := by decide +kernel
theorem dX4_init_25 : decode cX4_init 25 = .ok (.invokestatic 11, 3) := by decide +kernel
theorem dX4_init_28 : decode cX4_init 28 = .ok (.putfield 28, 3) := by decide +kernel
theorem dX4_init_31 : decode cX4_init 31 = .ok (.aload_n 0, 1) := by decide +kernel
theorem dX4_init_32 : decode cX4_init 32 = .ok (.ldc 31, 2) := by decide +kernel
theorem dX4_init_34 : decode cX4_init 34 = .ok (.invokestatic 11, 3) := by decide +kernel
theorem dX4_init_37 : decode cX4_init 37 = .ok (.putfield 33, 3) := by decide +kernel
theorem dX4_init_40 : decode cX4_init 40 = .ok (.aload_n 0, 1) := by decide +kernel
theorem dX4_init_41 : decode cX4_init 41 = .ok (.ldc 36, 2) := by decide +kernel
theorem dX4_init_43 : decode cX4_init 43 = .ok (.invokestatic 11, 3) := by decide +kernel
theorem dX4_init_46 : decode cX4_init 46 = .ok (.putfield 38, 3) := by decide +kernel
theorem dX4_init_49 : decode cX4_init 49 = .ok (.aload_n 0, 1) := by decide +kernel
theorem dX4_init_50 : decode cX4_init 50 = .ok (.ldc 41, 2) := by decide +kernel
theorem dX4_init_52 : decode cX4_init 52 = .ok (.invokestatic 11, 3) := by decide +kernel
theorem dX4_init_55 : decode cX4_init 55 = .ok (.putfield 43, 3) := by decide +kernel
theorem dX4_init_58 : decode cX4_init 58 = .ok (.aload_n 0, 1) := by decide +kernel
theorem dX4_init_59 : decode cX4_init 59 = .ok (.bipush 39, 2) := by decide +kernel
theorem dX4_init_61 : decode cX4_init 61 = .ok (.newarray .long, 2) := by decide +kernel
theorem dX4_init_63 : decode cX4_init 63 = .ok (.putfield 48, 3) := by decide +kernel
theorem dX4_init_66 : decode cX4_init 66 = .ok (.aload_n 0, 1) := by decide +kernel
theorem dX4_init_67 : decode cX4_init 67 = .ok (.iconst (-1), 1) := by decide +kernel
theorem dX4_init_68 : decode cX4_init 68 = .ok (.putfield 52, 3) := by decide +kernel
theorem dX4_init_71 : decode cX4_init 71 = .ok (.aload_n 0, 1) := by decide +kernel
theorem dX4_init_72 : decode cX4_init 72 = .ok (.aload_n 1, 1) := by decide +kernel
theorem dX4_init_73 : decode cX4_init 73 = .ok (.putfield 56, 3) := by decide +kernel
theorem dX4_init_76 : decode cX4_init 76 = .ok (.iconst 0, 1) := by decide +kernel
theorem dX4_init_77 : decode cX4_init 77 = .ok (.istore_n 2, 1) := by decide +kernel
theorem dX4_init_78 : decode cX4_init 78 = .ok (.iconst 0, 1) := by decide +kernel
theorem dX4_init_79 : decode cX4_init 79 = .ok (.istore_n 3, 1) := by decide +kernel
theorem dX4_init_80 : decode cX4_init 80 = .ok (.iload_n 3, 1) := by decide +kernel
theorem dX4_init_81 : decode cX4_init 81 = .ok (.ldc 60, 2) := by decide +kernel
theorem dX4_init_83 : decode cX4_init 83 = .ok (.invokevirtual 62, 3) := by decide +kernel
theorem dX4_init_86 : decode cX4_init 86 = .ok (.if_icmp .ge 53, 3) := by decide +kernel
theorem dX4_init_89 : decode cX4_init 89 = .ok (.iload_n 2, 1) := by decide +kernel
theorem dX4_init_90 : decode cX4_init 90 = .ok (.bipush 15, 2) := by decide +kernel
theorem dX4_init_92 : decode cX4_init 92 = .ok (.if_icmp .ge 47, 3) := by decide +kernel
theorem dX4_init_95 : decode cX4_init 95 = .ok (.ldc 60, 2) := by decide +kernel
theorem dX4_init_97 : decode cX4_init 97 = .ok (.iload_n 3, 1) := by decide +kernel
theorem dX4_init_98 : decode cX4_init 98 = .ok (.invokevirtual 68, 3) := by decide +kernel
theorem dX4_init_101 : decode cX4_init 101 = .ok (.istore 4, 2) := by decide +kernel
theorem dX4_init_103 : decode cX4_init 103 = .ok (.iload 4, 2) := by decide +kernel
theorem dX4_init_105 : decode cX4_init 105 = .ok (.bipush 32, 2) := by decide +kernel
theorem dX4_init_107 : decode cX4_init 107 = .ok (.if_icmp .ne 9, 3) := by decide +kernel
theorem dX4_init_110 : decode cX4_init 110 = .ok (.iinc 2 1, 3) := by decide +kernel
theorem dX4_init_113 : decode cX4_init 113 = .ok (.goto 20, 3) := by decide +kernel
theorem dX4_init_116 : decode cX4_init 116 = .ok (.aload_n 0, 1) := by decide +kernel
theorem dX4_init_117 : decode cX4_init 117 = .ok (.getfield 48, 3) := by decide +kernel
theorem dX4_init_120 : decode cX4_init 120 = .ok (.iload_n 2, 1) := by decide +kernel
theorem dX4_init_121 : decode cX4_init 121 = .ok (.aload_n 0, 1) := by decide +kernel
theorem dX4_init_122 : decode cX4_init 122 = .ok (.getfield 48, 3) := by decide +kernel
theorem dX4_init_125 : decode cX4_init 125 = .ok (.iload_n 2, 1) := by decide +kernel
theorem dX4_init_126 : decode cX4_init 126 = .ok (.laload, 1) := by decide +kernel
theorem dX4_init_127 : decode cX4_init 127 = .ok (.iload 4, 2) := by decide +kernel
theorem dX4_init_129 : decode cX4_init 129 = .ok (.invokestatic 72, 3) := by decide +kernel
theorem dX4_init_132 : decode cX4_init 132 = .ok (.lastore, 1) := by decide +kernel
theorem dX4_init_133 : decode cX4_init 133 = .ok (.iinc 3 1, 3) := by decide +kernel
theorem dX4_init_136 : decode cX4_init 136 = .ok (.goto (-56), 3) := by decide +kernel
theorem dX4_init_139 : decode cX4_init 139 = .ok (.return_, 1) := by decide +kernel
theorem dX4_packed_0 : decode cX4_packed 0 = .ok (.lconst 0, 1) := by decide +kernel
theorem dX4_packed_1 : decode cX4_packed 1 = .ok (.lstore_n 1, 1) := by decide +kernel
theorem dX4_packed_2 : decode cX4_packed 2 = .ok (.iconst 0, 1) := by decide +kernel
theorem dX4_packed_3 : decode cX4_packed 3 = .ok (.istore_n 3, 1) := by decide +kernel
theorem dX4_packed_4 : decode cX4_packed 4 = .ok (.iload_n 3, 1) := by decide +kernel
theorem dX4_packed_5 : decode cX4_packed 5 = .ok (.aload_n 0, 1) := by decide +kernel
theorem dX4_packed_6 : decode cX4_packed 6 = .ok (.invokevirtual 62, 3) := by decide +kernel
theorem dX4_packed_9 : decode cX4_packed 9 = .ok (.if_icmp .ge 19, 3) := by decide +kernel
theorem dX4_packed_12 : decode cX4_packed 12 = .ok (.lload_n 1, 1) := by decide +kernel
theorem dX4_packed_13 : decode cX4_packed 13 = .ok (.aload_n 0, 1) := by decide +kernel
theorem dX4_packed_14 : decode cX4_packed 14 = .ok (.iload_n 3, 1) := by decide +kernel
theorem dX4_packed_15 : decode cX4_packed 15 = .ok (.invokevirtual 68, 3) := by decide +kernel
theorem dX4_packed_18 : decode cX4_packed 18 = .ok (.invokestatic 72, 3) := by decide +kernel
theorem dX4_packed_21 : decode cX4_packed 21 = .ok (.lstore_n 1, 1) := by decide +kernel
theorem dX4_packed_22 : decode cX4_packed 22 = .ok (.iinc 3 1, 3) := by decide +kernel
theorem dX4_packed_25 : decode cX4_packed 25 = .ok (.goto (-21), 3) := by decide +kernel
theorem dX4_packed_28 : decode cX4_packed 28 = .ok (.lload_n 1, 1) := by decide +kernel
theorem dX4_packed_29 : decode cX4_packed 29 = .ok (.lreturn, 1) := by decide +kernel
theorem dX4_withLetter_0 : decode cX4_withLetter 0 = .ok (.lload_n 0, 1) := by decide +kernel
theorem dX4_withLetter_1 : decode cX4_withLetter 1 = .ok (.iconst 5, 1) := by decide +kernel
theorem dX4_withLetter_2 : decode cX4_withLetter 2 = .ok (.lshl, 1) := by decide +kernel
theorem dX4_withLetter_3 : decode cX4_withLetter 3 = .ok (.iload_n 2, 1) := by decide +kernel
theorem dX4_withLetter_4 : decode cX4_withLetter 4 = .ok (.bipush 96, 2) := by decide +kernel
theorem dX4_withLetter_6 : decode cX4_withLetter 6 = .ok (.isub, 1) := by decide +kernel
theorem dX4_withLetter_7 : decode cX4_withLetter 7 = .ok (.i2l, 1) := by decide +kernel
theorem dX4_withLetter_8 : decode cX4_withLetter 8 = .ok (.lor, 1) := by decide +kernel
theorem dX4_withLetter_9 : decode cX4_withLetter 9 = .ok (.lreturn, 1) := by decide +kernel
theorem dX4_read_0 : decode cX4_read 0 = .ok (.aload_n 0, 1) := by decide +kernel
theorem dX4_read_1 : decode cX4_read 1 = .ok (.aload_n 1, 1) := by decide +kernel
theorem dX4_read_2 : decode cX4_read 2 = .ok (.putfield 76, 3) := by decide +kernel
theorem dX4_read_5 : decode cX4_read 5 = .ok (.aload_n 0, 1) := by decide +kernel
theorem dX4_read_6 : decode cX4_read 6 = .ok (.getfield 76, 3) := by decide +kernel
theorem dX4_read_9 : decode cX4_read 9 = .ok (.invokevirtual 80, 3) := by decide +kernel
theorem dX4_read_12 : decode cX4_read 12 = .ok (.bipush 15, 2) := by decide +kernel
theorem dX4_read_14 : decode cX4_read 14 = .ok (.istore_n 2, 1) := by decide +kernel
theorem dX4_read_15 : decode cX4_read 15 = .ok (.iload_n 2, 1) := by decide +kernel
theorem dX4_read_16 : decode cX4_read 16 = .ok (.bipush 39, 2) := by decide +kernel
theorem dX4_read_18 : decode cX4_read 18 = .ok (.if_icmp .ge 16, 3) := by decide +kernel
theorem dX4_read_21 : decode cX4_read 21 = .ok (.aload_n 0, 1) := by decide +kernel
theorem dX4_read_22 : decode cX4_read 22 = .ok (.getfield 48, 3) := by decide +kernel
theorem dX4_read_25 : decode cX4_read 25 = .ok (.iload_n 2, 1) := by decide +kernel
theorem dX4_read_26 : decode cX4_read 26 = .ok (.lconst 0, 1) := by decide +kernel
theorem dX4_read_27 : decode cX4_read 27 = .ok (.lastore, 1) := by decide +kernel
theorem dX4_read_28 : decode cX4_read 28 = .ok (.iinc 2 1, 3) := by decide +kernel
theorem dX4_read_31 : decode cX4_read 31 = .ok (.goto (-16), 3) := by decide +kernel
theorem dX4_read_34 : decode cX4_read 34 = .ok (.aload_n 0, 1) := by decide +kernel
theorem dX4_read_35 : decode cX4_read 35 = .ok (.iconst 0, 1) := by decide +kernel
theorem dX4_read_36 : decode cX4_read 36 = .ok (.putfield 85, 3) := by decide +kernel
theorem dX4_read_39 : decode cX4_read 39 = .ok (.aload_n 0, 1) := by decide +kernel
theorem dX4_read_40 : decode cX4_read 40 = .ok (.iconst (-1), 1) := by decide +kernel
theorem dX4_read_41 : decode cX4_read 41 = .ok (.putfield 52, 3) := by decide +kernel
theorem dX4_read_44 : decode cX4_read 44 = .ok (.aload_n 0, 1) := by decide +kernel
theorem dX4_read_45 : decode cX4_read 45 = .ok (.iconst 0, 1) := by decide +kernel
theorem dX4_read_46 : decode cX4_read 46 = .ok (.putfield 88, 3) := by decide +kernel
theorem dX4_read_49 : decode cX4_read 49 = .ok (.aload_n 0, 1) := by decide +kernel
theorem dX4_read_50 : decode cX4_read 50 = .ok (.invokevirtual 91, 3) := by decide +kernel
theorem dX4_read_53 : decode cX4_read 53 = .ok (.iconst 0, 1) := by decide +kernel
theorem dX4_read_54 : decode cX4_read 54 = .ok (.istore_n 2, 1) := by decide +kernel
theorem dX4_read_55 : decode cX4_read 55 = .ok (.iload_n 2, 1) := by decide +kernel
theorem dX4_read_56 : decode cX4_read 56 = .ok (.bipush 24, 2) := by decide +kernel
theorem dX4_read_58 : decode cX4_read 58 = .ok (.if_icmp .gt 96, 3) := by decide +kernel
theorem dX4_read_61 : decode cX4_read 61 = .ok (.aload_n 0, 1) := by decide +kernel
theorem dX4_read_62 : decode cX4_read 62 = .ok (.getfield 94, 3) := by decide +kernel
theorem dX4_read_65 : decode cX4_read 65 = .ok (.iconst (-1), 1) := by decide +kernel
theorem dX4_read_66 : decode cX4_read 66 = .ok (.if_icmp .eq 88, 3) := by decide +kernel
theorem dX4_read_69 : decode cX4_read 69 = .ok (.iload_n 2, 1) := by decide +kernel
theorem dX4_read_70 : decode cX4_read 70 = .ok (.bipush 24, 2) := by decide +kernel
theorem dX4_read_72 : decode cX4_read 72 = .ok (.if_icmp .eq 12, 3) := by decide +kernel
theorem dX4_read_75 : decode cX4_read 75 = .ok (.aload_n 0, 1) := by decide +kernel
theorem dX4_read_76 : decode cX4_read 76 = .ok (.getfield 94, 3) := by decide +kernel
theorem dX4_read_79 : decode cX4_read 79 = .ok (.bipush 97, 2) := by decide +kernel
theorem dX4_read_81 : decode cX4_read 81 = .ok (.if_icmp .eq 15, 3) := by decide +kernel
theorem dX4_read_84 : decode cX4_read 84 = .ok (.aload_n 0, 1) := by decide +kernel
theorem dX4_read_85 : decode cX4_read 85 = .ok (.iconst 1, 1) := by decide +kernel
theorem dX4_read_86 : decode cX4_read 86 = .ok (.aload_n 0, 1) := by decide +kernel
theorem dX4_read_87 : decode cX4_read 87 = .ok (.getfield 97, 3) := by decide +kernel
theorem dX4_read_90 : decode cX4_read 90 = .ok (.invokevirtual 100, 3) := by decide +kernel
theorem dX4_read_93 : decode cX4_read 93 = .ok (.goto 49, 3) := by decide +kernel
theorem dX4_read_96 : decode cX4_read 96 = .ok (.aload_n 0, 1) := by decide +kernel
theorem dX4_read_97 : decode cX4_read 97 = .ok (.getfield 104, 3) := by decide +kernel
theorem dX4_read_100 : decode cX4_read 100 = .ok (.aload_n 0, 1) := by decide +kernel
theorem dX4_read_101 : decode cX4_read 101 = .ok (.getfield 17, 3) := by decide +kernel
theorem dX4_read_104 : decode cX4_read 104 = .ok (.lcmp, 1) := by decide +kernel
theorem dX4_read_105 : decode cX4_read 105 = .ok (.ifCond .ne 10, 3) := by decide +kernel
theorem dX4_read_108 : decode cX4_read 108 = .ok (.aload_n 0, 1) := by decide +kernel
theorem dX4_read_109 : decode cX4_read 109 = .ok (.invokevirtual 107, 3) := by decide +kernel
theorem dX4_read_112 : decode cX4_read 112 = .ok (.goto 30, 3) := by decide +kernel
theorem dX4_read_115 : decode cX4_read 115 = .ok (.aload_n 0, 1) := by decide +kernel
theorem dX4_read_116 : decode cX4_read 116 = .ok (.getfield 104, 3) := by decide +kernel
theorem dX4_read_119 : decode cX4_read 119 = .ok (.aload_n 0, 1) := by decide +kernel
theorem dX4_read_120 : decode cX4_read 120 = .ok (.getfield 28, 3) := by decide +kernel
theorem dX4_read_123 : decode cX4_read 123 = .ok (.lcmp, 1) := by decide +kernel
theorem dX4_read_124 : decode cX4_read 124 = .ok (.ifCond .ne 10, 3) := by decide +kernel
theorem dX4_read_127 : decode cX4_read 127 = .ok (.aload_n 0, 1) := by decide +kernel
theorem dX4_read_128 : decode cX4_read 128 = .ok (.invokevirtual 110, 3) := by decide +kernel
theorem dX4_read_131 : decode cX4_read 131 = .ok (.goto 11, 3) := by decide +kernel
theorem dX4_read_134 : decode cX4_read 134 = .ok (.aload_n 0, 1) := by decide +kernel
theorem dX4_read_135 : decode cX4_read 135 = .ok (.bipush 15, 2) := by decide +kernel
theorem dX4_read_137 : decode cX4_read 137 = .ok (.iload_n 2, 1) := by decide +kernel
theorem dX4_read_138 : decode cX4_read 138 = .ok (.iadd, 1) := by decide +kernel
theorem dX4_read_139 : decode cX4_read 139 = .ok (.invokevirtual 113, 3) := by decide +kernel
theorem dX4_read_142 : decode cX4_read 142 = .ok (.aload_n 0, 1) := by decide +kernel
theorem dX4_read_143 : decode cX4_read 143 = .ok (.bipush 59, 2) := by decide +kernel
theorem dX4_read_145 : decode cX4_read 145 = .ok (.invokevirtual 117, 3) := by decide +kernel
theorem dX4_read_148 : decode cX4_read 148 = .ok (.iinc 2 1, 3) := by decide +kernel
theorem dX4_read_151 : decode cX4_read 151 = .ok (.goto (-96), 3) := by decide +kernel
theorem dX4_read_154 : decode cX4_read 154 = .ok (.aload_n 0, 1) := by decide +kernel
theorem dX4_read_155 : decode cX4_read 155 = .ok (.getfield 76, 3) := by decide +kernel
theorem dX4_read_158 : decode cX4_read 158 = .ok (.invokevirtual 120, 3) := by decide +kernel
theorem dX4_read_161 : decode cX4_read 161 = .ok (.ifCond .ne 15, 3) := by decide +kernel
theorem dX4_read_164 : decode cX4_read 164 = .ok (.aload_n 0, 1) := by decide +kernel
theorem dX4_read_165 : decode cX4_read 165 = .ok (.iconst 4, 1) := by decide +kernel
theorem dX4_read_166 : decode cX4_read 166 = .ok (.aload_n 0, 1) := by decide +kernel
theorem dX4_read_167 : decode cX4_read 167 = .ok (.getfield 56, 3) := by decide +kernel
theorem dX4_read_170 : decode cX4_read 170 = .ok (.getfield 124, 3) := by decide +kernel
theorem dX4_read_173 : decode cX4_read 173 = .ok (.invokevirtual 100, 3) := by decide +kernel
theorem dX4_read_176 : decode cX4_read 176 = .ok (.aload_n 0, 1) := by decide +kernel
theorem dX4_read_177 : decode cX4_read 177 = .ok (.getfield 85, 3) := by decide +kernel
theorem dX4_read_180 : decode cX4_read 180 = .ok (.ifCond .ne 7, 3) := by decide +kernel
theorem dX4_read_183 : decode cX4_read 183 = .ok (.iconst 1, 1) := by decide +kernel
theorem dX4_read_184 : decode cX4_read 184 = .ok (.goto 4, 3) := by decide +kernel
theorem dX4_read_187 : decode cX4_read 187 = .ok (.iconst 0, 1) := by decide +kernel
theorem dX4_read_188 : decode cX4_read 188 = .ok (.ireturn, 1) := by decide +kernel
theorem dX4_readTie_0 : decode cX4_readTie 0 = .ok (.aload_n 0, 1) := by decide +kernel
theorem dX4_readTie_1 : decode cX4_readTie 1 = .ok (.invokevirtual 91, 3) := by decide +kernel
theorem dX4_readTie_4 : decode cX4_readTie 4 = .ok (.aload_n 0, 1) := by decide +kernel
theorem dX4_readTie_5 : decode cX4_readTie 5 = .ok (.iconst 0, 1) := by decide +kernel
theorem dX4_readTie_6 : decode cX4_readTie 6 = .ok (.invokevirtual 128, 3) := by decide +kernel
theorem dX4_readTie_9 : decode cX4_readTie 9 = .ok (.aload_n 0, 1) := by decide +kernel
theorem dX4_readTie_10 : decode cX4_readTie 10 = .ok (.getfield 76, 3) := by decide +kernel
theorem dX4_readTie_13 : decode cX4_readTie 13 = .ok (.iconst 2, 1) := by decide +kernel
theorem dX4_readTie_14 : decode cX4_readTie 14 = .ok (.invokevirtual 131, 3) := by decide +kernel
theorem dX4_readTie_17 : decode cX4_readTie 17 = .ok (.return_, 1) := by decide +kernel
theorem dX4_readOutIf_0 : decode cX4_readOutIf 0 = .ok (.aload_n 0, 1) := by decide +kernel
theorem dX4_readOutIf_1 : decode cX4_readOutIf 1 = .ok (.invokevirtual 91, 3) := by decide +kernel
theorem dX4_readOutIf_4 : decode cX4_readOutIf 4 = .ok (.aload_n 0, 1) := by decide +kernel
theorem dX4_readOutIf_5 : decode cX4_readOutIf 5 = .ok (.getfield 94, 3) := by decide +kernel
theorem dX4_readOutIf_8 : decode cX4_readOutIf 8 = .ok (.bipush 97, 2) := by decide +kernel
theorem dX4_readOutIf_10 : decode cX4_readOutIf 10 = .ok (.if_icmp .ne 15, 3) := by decide +kernel
theorem dX4_readOutIf_13 : decode cX4_readOutIf 13 = .ok (.aload_n 0, 1) := by decide +kernel
theorem dX4_readOutIf_14 : decode cX4_readOutIf 14 = .ok (.getfield 104, 3) := by decide +kernel
theorem dX4_readOutIf_17 : decode cX4_readOutIf 17 = .ok (.aload_n 0, 1) := by decide +kernel
theorem dX4_readOutIf_18 : decode cX4_readOutIf 18 = .ok (.getfield 23, 3) := by decide +kernel
theorem dX4_readOutIf_21 : decode cX4_readOutIf 21 = .ok (.lcmp, 1) := by decide +kernel
theorem dX4_readOutIf_22 : decode cX4_readOutIf 22 = .ok (.ifCond .eq 12, 3) := by decide +kernel
theorem dX4_readOutIf_25 : decode cX4_readOutIf 25 = .ok (.aload_n 0, 1) := by decide +kernel
theorem dX4_readOutIf_26 : decode cX4_readOutIf 26 = .ok (.iconst 1, 1) := by decide +kernel
theorem dX4_readOutIf_27 : decode cX4_readOutIf 27 = .ok (.aload_n 0, 1) := by decide +kernel
theorem dX4_readOutIf_28 : decode cX4_readOutIf 28 = .ok (.getfield 97, 3) := by decide +kernel
theorem dX4_readOutIf_31 : decode cX4_readOutIf 31 = .ok (.invokevirtual 100, 3) := by decide +kernel
theorem dX4_readOutIf_34 : decode cX4_readOutIf 34 = .ok (.aload_n 0, 1) := by decide +kernel
theorem dX4_readOutIf_35 : decode cX4_readOutIf 35 = .ok (.invokevirtual 91, 3) := by decide +kernel
theorem dX4_readOutIf_38 : decode cX4_readOutIf 38 = .ok (.aload_n 0, 1) := by decide +kernel
theorem dX4_readOutIf_39 : decode cX4_readOutIf 39 = .ok (.iconst 0, 1) := by decide +kernel
theorem dX4_readOutIf_40 : decode cX4_readOutIf 40 = .ok (.invokevirtual 128, 3) := by decide +kernel
theorem dX4_readOutIf_43 : decode cX4_readOutIf 43 = .ok (.aload_n 0, 1) := by decide +kernel
theorem dX4_readOutIf_44 : decode cX4_readOutIf 44 = .ok (.invokevirtual 134, 3) := by decide +kernel
theorem dX4_readOutIf_47 : decode cX4_readOutIf 47 = .ok (.istore_n 1, 1) := by decide +kernel
theorem dX4_readOutIf_48 : decode cX4_readOutIf 48 = .ok (.aload_n 0, 1) := by decide +kernel
theorem dX4_readOutIf_49 : decode cX4_readOutIf 49 = .ok (.invokevirtual 91, 3) := by decide +kernel
theorem dX4_readOutIf_52 : decode cX4_readOutIf 52 = .ok (.aload_n 0, 1) := by decide +kernel
theorem dX4_readOutIf_53 : decode cX4_readOutIf 53 = .ok (.iconst 0, 1) := by decide +kernel
theorem dX4_readOutIf_54 : decode cX4_readOutIf 54 = .ok (.invokevirtual 128, 3) := by decide +kernel
theorem dX4_readOutIf_57 : decode cX4_readOutIf 57 = .ok (.aload_n 0, 1) := by decide +kernel
theorem dX4_readOutIf_58 : decode cX4_readOutIf 58 = .ok (.getfield 76, 3) := by decide +kernel
theorem dX4_readOutIf_61 : decode cX4_readOutIf 61 = .ok (.iload_n 1, 1) := by decide +kernel
theorem dX4_readOutIf_62 : decode cX4_readOutIf 62 = .ok (.iconst 0, 1) := by decide +kernel
theorem dX4_readOutIf_63 : decode cX4_readOutIf 63 = .ok (.invokevirtual 137, 3) := by decide +kernel
theorem dX4_readOutIf_66 : decode cX4_readOutIf 66 = .ok (.aload_n 0, 1) := by decide +kernel
theorem dX4_readOutIf_67 : decode cX4_readOutIf 67 = .ok (.getfield 76, 3) := by decide +kernel
theorem dX4_readOutIf_70 : decode cX4_readOutIf 70 = .ok (.iconst 1, 1) := by decide +kernel
theorem dX4_readOutIf_71 : decode cX4_readOutIf 71 = .ok (.invokevirtual 131, 3) := by decide +kernel
theorem dX4_readOutIf_74 : decode cX4_readOutIf 74 = .ok (.return_, 1) := by decide +kernel
theorem dX4_comparison_0 : decode cX4_comparison 0 = .ok (.aload_n 0, 1) := by decide +kernel
theorem dX4_comparison_1 : decode cX4_comparison 1 = .ok (.getfield 94, 3) := by decide +kernel
theorem dX4_comparison_4 : decode cX4_comparison 4 = .ok (.tableswitch 37 60 62 #[28, 34, 31], 28) := by decide +kernel
theorem dX4_comparison_32 : decode cX4_comparison 32 = .ok (.bipush 8, 2) := by decide +kernel
theorem dX4_comparison_34 : decode cX4_comparison 34 = .ok (.ireturn, 1) := by decide +kernel
theorem dX4_comparison_35 : decode cX4_comparison 35 = .ok (.bipush 9, 2) := by decide +kernel
theorem dX4_comparison_37 : decode cX4_comparison 37 = .ok (.ireturn, 1) := by decide +kernel
theorem dX4_comparison_38 : decode cX4_comparison 38 = .ok (.bipush 10, 2) := by decide +kernel
theorem dX4_comparison_40 : decode cX4_comparison 40 = .ok (.ireturn, 1) := by decide +kernel
theorem dX4_comparison_41 : decode cX4_comparison 41 = .ok (.aload_n 0, 1) := by decide +kernel
theorem dX4_comparison_42 : decode cX4_comparison 42 = .ok (.iconst 1, 1) := by decide +kernel
theorem dX4_comparison_43 : decode cX4_comparison 43 = .ok (.aload_n 0, 1) := by decide +kernel
theorem dX4_comparison_44 : decode cX4_comparison 44 = .ok (.getfield 97, 3) := by decide +kernel
theorem dX4_comparison_47 : decode cX4_comparison 47 = .ok (.invokevirtual 100, 3) := by decide +kernel
theorem dX4_comparison_50 : decode cX4_comparison 50 = .ok (.bipush 10, 2) := by decide +kernel
theorem dX4_comparison_52 : decode cX4_comparison 52 = .ok (.ireturn, 1) := by decide +kernel
theorem dX4_readGiving_0 : decode cX4_readGiving 0 = .ok (.aload_n 0, 1) := by decide +kernel
theorem dX4_readGiving_1 : decode cX4_readGiving 1 = .ok (.getfield 104, 3) := by decide +kernel
theorem dX4_readGiving_4 : decode cX4_readGiving 4 = .ok (.lstore_n 2, 1) := by decide +kernel
theorem dX4_readGiving_5 : decode cX4_readGiving 5 = .ok (.aload_n 0, 1) := by decide +kernel
theorem dX4_readGiving_6 : decode cX4_readGiving 6 = .ok (.iconst 0, 1) := by decide +kernel
theorem dX4_readGiving_7 : decode cX4_readGiving 7 = .ok (.invokevirtual 140, 3) := by decide +kernel
theorem dX4_readGiving_10 : decode cX4_readGiving 10 = .ok (.pop, 1) := by decide +kernel
theorem dX4_readGiving_11 : decode cX4_readGiving 11 = .ok (.aload_n 0, 1) := by decide +kernel
theorem dX4_readGiving_12 : decode cX4_readGiving 12 = .ok (.bipush 61, 2) := by decide +kernel
theorem dX4_readGiving_14 : decode cX4_readGiving 14 = .ok (.invokevirtual 117, 3) := by decide +kernel
theorem dX4_readGiving_17 : decode cX4_readGiving 17 = .ok (.aload_n 0, 1) := by decide +kernel
theorem dX4_readGiving_18 : decode cX4_readGiving 18 = .ok (.iconst 0, 1) := by decide +kernel
theorem dX4_readGiving_19 : decode cX4_readGiving 19 = .ok (.invokevirtual 128, 3) := by decide +kernel
theorem dX4_readGiving_22 : decode cX4_readGiving 22 = .ok (.aload_n 0, 1) := by decide +kernel
theorem dX4_readGiving_23 : decode cX4_readGiving 23 = .ok (.getfield 76, 3) := by decide +kernel
theorem dX4_readGiving_26 : decode cX4_readGiving 26 = .ok (.iconst 0, 1) := by decide +kernel
theorem dX4_readGiving_27 : decode cX4_readGiving 27 = .ok (.invokevirtual 131, 3) := by decide +kernel
theorem dX4_readGiving_30 : decode cX4_readGiving 30 = .ok (.aload_n 0, 1) := by decide +kernel
theorem dX4_readGiving_31 : decode cX4_readGiving 31 = .ok (.getfield 48, 3) := by decide +kernel
theorem dX4_readGiving_34 : decode cX4_readGiving 34 = .ok (.iload_n 1, 1) := by decide +kernel
theorem dX4_readGiving_35 : decode cX4_readGiving 35 = .ok (.lload_n 2, 1) := by decide +kernel
theorem dX4_readGiving_36 : decode cX4_readGiving 36 = .ok (.lastore, 1) := by decide +kernel
theorem dX4_readGiving_37 : decode cX4_readGiving 37 = .ok (.lload_n 2, 1) := by decide +kernel
theorem dX4_readGiving_38 : decode cX4_readGiving 38 = .ok (.aload_n 0, 1) := by decide +kernel
theorem dX4_readGiving_39 : decode cX4_readGiving 39 = .ok (.getfield 43, 3) := by decide +kernel
theorem dX4_readGiving_42 : decode cX4_readGiving 42 = .ok (.lcmp, 1) := by decide +kernel
theorem dX4_readGiving_43 : decode cX4_readGiving 43 = .ok (.ifCond .ne 11, 3) := by decide +kernel
theorem dX4_readGiving_46 : decode cX4_readGiving 46 = .ok (.aload_n 0, 1) := by decide +kernel
theorem dX4_readGiving_47 : decode cX4_readGiving 47 = .ok (.getfield 76, 3) := by decide +kernel
theorem dX4_readGiving_50 : decode cX4_readGiving 50 = .ok (.iload_n 1, 1) := by decide +kernel
theorem dX4_readGiving_51 : decode cX4_readGiving 51 = .ok (.invokevirtual 144, 3) := by decide +kernel
theorem dX4_readGiving_54 : decode cX4_readGiving 54 = .ok (.return_, 1) := by decide +kernel
theorem dX4_readSum_0 : decode cX4_readSum 0 = .ok (.aload_n 0, 1) := by decide +kernel
theorem dX4_readSum_1 : decode cX4_readSum 1 = .ok (.iload_n 1, 1) := by decide +kernel
theorem dX4_readSum_2 : decode cX4_readSum 2 = .ok (.invokevirtual 147, 3) := by decide +kernel
theorem dX4_readSum_5 : decode cX4_readSum 5 = .ok (.iconst 0, 1) := by decide +kernel
theorem dX4_readSum_6 : decode cX4_readSum 6 = .ok (.istore_n 2, 1) := by decide +kernel
theorem dX4_readSum_7 : decode cX4_readSum 7 = .ok (.iload_n 2, 1) := by decide +kernel
theorem dX4_readSum_8 : decode cX4_readSum 8 = .ok (.sipush 600, 3) := by decide +kernel
theorem dX4_readSum_11 : decode cX4_readSum 11 = .ok (.if_icmp .ge 60, 3) := by decide +kernel
theorem dX4_readSum_14 : decode cX4_readSum 14 = .ok (.aload_n 0, 1) := by decide +kernel
theorem dX4_readSum_15 : decode cX4_readSum 15 = .ok (.getfield 94, 3) := by decide +kernel
theorem dX4_readSum_18 : decode cX4_readSum 18 = .ok (.bipush 43, 2) := by decide +kernel
theorem dX4_readSum_20 : decode cX4_readSum 20 = .ok (.if_icmp .eq 12, 3) := by decide +kernel
theorem dX4_readSum_23 : decode cX4_readSum 23 = .ok (.aload_n 0, 1) := by decide +kernel
theorem dX4_readSum_24 : decode cX4_readSum 24 = .ok (.getfield 94, 3) := by decide +kernel
theorem dX4_readSum_27 : decode cX4_readSum 27 = .ok (.bipush 45, 2) := by decide +kernel
theorem dX4_readSum_29 : decode cX4_readSum 29 = .ok (.if_icmp .ne 42, 3) := by decide +kernel
theorem dX4_readSum_32 : decode cX4_readSum 32 = .ok (.aload_n 0, 1) := by decide +kernel
theorem dX4_readSum_33 : decode cX4_readSum 33 = .ok (.getfield 94, 3) := by decide +kernel
theorem dX4_readSum_36 : decode cX4_readSum 36 = .ok (.bipush 43, 2) := by decide +kernel
theorem dX4_readSum_38 : decode cX4_readSum 38 = .ok (.if_icmp .ne 7, 3) := by decide +kernel
theorem dX4_readSum_41 : decode cX4_readSum 41 = .ok (.iconst 2, 1) := by decide +kernel
theorem dX4_readSum_42 : decode cX4_readSum 42 = .ok (.goto 4, 3) := by decide +kernel
theorem dX4_readSum_45 : decode cX4_readSum 45 = .ok (.iconst 3, 1) := by decide +kernel
theorem dX4_readSum_46 : decode cX4_readSum 46 = .ok (.istore_n 3, 1) := by decide +kernel
theorem dX4_readSum_47 : decode cX4_readSum 47 = .ok (.aload_n 0, 1) := by decide +kernel
theorem dX4_readSum_48 : decode cX4_readSum 48 = .ok (.invokevirtual 91, 3) := by decide +kernel
theorem dX4_readSum_51 : decode cX4_readSum 51 = .ok (.aload_n 0, 1) := by decide +kernel
theorem dX4_readSum_52 : decode cX4_readSum 52 = .ok (.iload_n 1, 1) := by decide +kernel
theorem dX4_readSum_53 : decode cX4_readSum 53 = .ok (.invokevirtual 147, 3) := by decide +kernel
theorem dX4_readSum_56 : decode cX4_readSum 56 = .ok (.aload_n 0, 1) := by decide +kernel
theorem dX4_readSum_57 : decode cX4_readSum 57 = .ok (.getfield 76, 3) := by decide +kernel
theorem dX4_readSum_60 : decode cX4_readSum 60 = .ok (.iload_n 3, 1) := by decide +kernel
theorem dX4_readSum_61 : decode cX4_readSum 61 = .ok (.iconst 0, 1) := by decide +kernel
theorem dX4_readSum_62 : decode cX4_readSum 62 = .ok (.invokevirtual 137, 3) := by decide +kernel
theorem dX4_readSum_65 : decode cX4_readSum 65 = .ok (.iinc 2 1, 3) := by decide +kernel
theorem dX4_readSum_68 : decode cX4_readSum 68 = .ok (.goto (-61), 3) := by decide +kernel
theorem dX4_readSum_71 : decode cX4_readSum 71 = .ok (.return_, 1) := by decide +kernel
theorem dX4_readProduct_0 : decode cX4_readProduct 0 = .ok (.aload_n 0, 1) := by decide +kernel
theorem dX4_readProduct_1 : decode cX4_readProduct 1 = .ok (.iload_n 1, 1) := by decide +kernel
theorem dX4_readProduct_2 : decode cX4_readProduct 2 = .ok (.invokevirtual 150, 3) := by decide +kernel
theorem dX4_readProduct_5 : decode cX4_readProduct 5 = .ok (.iconst 0, 1) := by decide +kernel
theorem dX4_readProduct_6 : decode cX4_readProduct 6 = .ok (.istore_n 2, 1) := by decide +kernel
theorem dX4_readProduct_7 : decode cX4_readProduct 7 = .ok (.iload_n 2, 1) := by decide +kernel
theorem dX4_readProduct_8 : decode cX4_readProduct 8 = .ok (.sipush 600, 3) := by decide +kernel
theorem dX4_readProduct_11 : decode cX4_readProduct 11 = .ok (.if_icmp .ge 71, 3) := by decide +kernel
theorem dX4_readProduct_14 : decode cX4_readProduct 14 = .ok (.aload_n 0, 1) := by decide +kernel
theorem dX4_readProduct_15 : decode cX4_readProduct 15 = .ok (.getfield 94, 3) := by decide +kernel
theorem dX4_readProduct_18 : decode cX4_readProduct 18 = .ok (.bipush 42, 2) := by decide +kernel
theorem dX4_readProduct_20 : decode cX4_readProduct 20 = .ok (.if_icmp .eq 12, 3) := by decide +kernel
theorem dX4_readProduct_23 : decode cX4_readProduct 23 = .ok (.aload_n 0, 1) := by decide +kernel
theorem dX4_readProduct_24 : decode cX4_readProduct 24 = .ok (.getfield 94, 3) := by decide +kernel
theorem dX4_readProduct_27 : decode cX4_readProduct 27 = .ok (.bipush 47, 2) := by decide +kernel
theorem dX4_readProduct_29 : decode cX4_readProduct 29 = .ok (.if_icmp .ne 53, 3) := by decide +kernel
theorem dX4_readProduct_32 : decode cX4_readProduct 32 = .ok (.aload_n 0, 1) := by decide +kernel
theorem dX4_readProduct_33 : decode cX4_readProduct 33 = .ok (.getfield 94, 3) := by decide +kernel
theorem dX4_readProduct_36 : decode cX4_readProduct 36 = .ok (.bipush 42, 2) := by decide +kernel
theorem dX4_readProduct_38 : decode cX4_readProduct 38 = .ok (.if_icmp .ne 7, 3) := by decide +kernel
theorem dX4_readProduct_41 : decode cX4_readProduct 41 = .ok (.iconst 1, 1) := by decide +kernel
theorem dX4_readProduct_42 : decode cX4_readProduct 42 = .ok (.goto 4, 3) := by decide +kernel
theorem dX4_readProduct_45 : decode cX4_readProduct 45 = .ok (.iconst 0, 1) := by decide +kernel
theorem dX4_readProduct_46 : decode cX4_readProduct 46 = .ok (.istore_n 3, 1) := by decide +kernel
theorem dX4_readProduct_47 : decode cX4_readProduct 47 = .ok (.aload_n 0, 1) := by decide +kernel
theorem dX4_readProduct_48 : decode cX4_readProduct 48 = .ok (.invokevirtual 91, 3) := by decide +kernel
theorem dX4_readProduct_51 : decode cX4_readProduct 51 = .ok (.iload_n 3, 1) := by decide +kernel
theorem dX4_readProduct_52 : decode cX4_readProduct 52 = .ok (.ifCond .eq 20, 3) := by decide +kernel
theorem dX4_readProduct_55 : decode cX4_readProduct 55 = .ok (.aload_n 0, 1) := by decide +kernel
theorem dX4_readProduct_56 : decode cX4_readProduct 56 = .ok (.iload_n 1, 1) := by decide +kernel
theorem dX4_readProduct_57 : decode cX4_readProduct 57 = .ok (.invokevirtual 150, 3) := by decide +kernel
theorem dX4_readProduct_60 : decode cX4_readProduct 60 = .ok (.aload_n 0, 1) := by decide +kernel
theorem dX4_readProduct_61 : decode cX4_readProduct 61 = .ok (.getfield 76, 3) := by decide +kernel
theorem dX4_readProduct_64 : decode cX4_readProduct 64 = .ok (.iconst 4, 1) := by decide +kernel
theorem dX4_readProduct_65 : decode cX4_readProduct 65 = .ok (.iconst 0, 1) := by decide +kernel
theorem dX4_readProduct_66 : decode cX4_readProduct 66 = .ok (.invokevirtual 137, 3) := by decide +kernel
theorem dX4_readProduct_69 : decode cX4_readProduct 69 = .ok (.goto 7, 3) := by decide +kernel
theorem dX4_readProduct_72 : decode cX4_readProduct 72 = .ok (.aload_n 0, 1) := by decide +kernel
theorem dX4_readProduct_73 : decode cX4_readProduct 73 = .ok (.invokevirtual 153, 3) := by decide +kernel
theorem dX4_readProduct_76 : decode cX4_readProduct 76 = .ok (.iinc 2 1, 3) := by decide +kernel
theorem dX4_readProduct_79 : decode cX4_readProduct 79 = .ok (.goto (-72), 3) := by decide +kernel
theorem dX4_readProduct_82 : decode cX4_readProduct 82 = .ok (.return_, 1) := by decide +kernel
theorem dX4_readFactor_0 : decode cX4_readFactor 0 = .ok (.aload_n 0, 1) := by decide +kernel
theorem dX4_readFactor_1 : decode cX4_readFactor 1 = .ok (.invokevirtual 156, 3) := by decide +kernel
theorem dX4_readFactor_4 : decode cX4_readFactor 4 = .ok (.istore_n 2, 1) := by decide +kernel
theorem dX4_readFactor_5 : decode cX4_readFactor 5 = .ok (.aload_n 0, 1) := by decide +kernel
theorem dX4_readFactor_6 : decode cX4_readFactor 6 = .ok (.getfield 94, 3) := by decide +kernel
theorem dX4_readFactor_9 : decode cX4_readFactor 9 = .ok (.bipush 48, 2) := by decide +kernel
theorem dX4_readFactor_11 : decode cX4_readFactor 11 = .ok (.if_icmp .ne 16, 3) := by decide +kernel
theorem dX4_readFactor_14 : decode cX4_readFactor 14 = .ok (.aload_n 0, 1) := by decide +kernel
theorem dX4_readFactor_15 : decode cX4_readFactor 15 = .ok (.getfield 76, 3) := by decide +kernel
theorem dX4_readFactor_18 : decode cX4_readFactor 18 = .ok (.iconst 0, 1) := by decide +kernel
theorem dX4_readFactor_19 : decode cX4_readFactor 19 = .ok (.aload_n 0, 1) := by decide +kernel
theorem dX4_readFactor_20 : decode cX4_readFactor 20 = .ok (.invokevirtual 159, 3) := by decide +kernel
theorem dX4_readFactor_23 : decode cX4_readFactor 23 = .ok (.invokevirtual 137, 3) := by decide +kernel
theorem dX4_readFactor_26 : decode cX4_readFactor 26 = .ok (.return_, 1) := by decide +kernel
theorem dX4_readFactor_27 : decode cX4_readFactor 27 = .ok (.aload_n 0, 1) := by decide +kernel
theorem dX4_readFactor_28 : decode cX4_readFactor 28 = .ok (.getfield 94, 3) := by decide +kernel
theorem dX4_readFactor_31 : decode cX4_readFactor 31 = .ok (.bipush 97, 2) := by decide +kernel
theorem dX4_readFactor_33 : decode cX4_readFactor 33 = .ok (.if_icmp .ne 22, 3) := by decide +kernel
theorem dX4_readFactor_36 : decode cX4_readFactor 36 = .ok (.iload_n 2, 1) := by decide +kernel
theorem dX4_readFactor_37 : decode cX4_readFactor 37 = .ok (.iconst (-1), 1) := by decide +kernel
theorem dX4_readFactor_38 : decode cX4_readFactor 38 = .ok (.if_icmp .ne 17, 3) := by decide +kernel
theorem dX4_readFactor_41 : decode cX4_readFactor 41 = .ok (.aload_n 0, 1) := by decide +kernel
theorem dX4_readFactor_42 : decode cX4_readFactor 42 = .ok (.getfield 76, 3) := by decide +kernel
theorem dX4_readFactor_45 : decode cX4_readFactor 45 = .ok (.iconst 1, 1) := by decide +kernel
theorem dX4_readFactor_46 : decode cX4_readFactor 46 = .ok (.aload_n 0, 1) := by decide +kernel
theorem dX4_readFactor_47 : decode cX4_readFactor 47 = .ok (.iconst 1, 1) := by decide +kernel
theorem dX4_readFactor_48 : decode cX4_readFactor 48 = .ok (.invokevirtual 140, 3) := by decide +kernel
theorem dX4_readFactor_51 : decode cX4_readFactor 51 = .ok (.invokevirtual 137, 3) := by decide +kernel
theorem dX4_readFactor_54 : decode cX4_readFactor 54 = .ok (.return_, 1) := by decide +kernel
theorem dX4_readFactor_55 : decode cX4_readFactor 55 = .ok (.iload_n 2, 1) := by decide +kernel
theorem dX4_readFactor_56 : decode cX4_readFactor 56 = .ok (.iconst (-1), 1) := by decide +kernel
theorem dX4_readFactor_57 : decode cX4_readFactor 57 = .ok (.if_icmp .eq 7, 3) := by decide +kernel
theorem dX4_readFactor_60 : decode cX4_readFactor 60 = .ok (.aload_n 0, 1) := by decide +kernel
theorem dX4_readFactor_61 : decode cX4_readFactor 61 = .ok (.invokevirtual 91, 3) := by decide +kernel
theorem dX4_readFactor_64 : decode cX4_readFactor 64 = .ok (.aload_n 0, 1) := by decide +kernel
theorem dX4_readFactor_65 : decode cX4_readFactor 65 = .ok (.getfield 94, 3) := by decide +kernel
theorem dX4_readFactor_68 : decode cX4_readFactor 68 = .ok (.bipush 40, 2) := by decide +kernel
theorem dX4_readFactor_70 : decode cX4_readFactor 70 = .ok (.if_icmp .ne 9, 3) := by decide +kernel
theorem dX4_readFactor_73 : decode cX4_readFactor 73 = .ok (.iload_n 1, 1) := by decide +kernel
theorem dX4_readFactor_74 : decode cX4_readFactor 74 = .ok (.bipush 6, 2) := by decide +kernel
theorem dX4_readFactor_76 : decode cX4_readFactor 76 = .ok (.if_icmp .lt 13, 3) := by decide +kernel
theorem dX4_readFactor_79 : decode cX4_readFactor 79 = .ok (.aload_n 0, 1) := by decide +kernel
theorem dX4_readFactor_80 : decode cX4_readFactor 80 = .ok (.iconst 1, 1) := by decide +kernel
theorem dX4_readFactor_81 : decode cX4_readFactor 81 = .ok (.aload_n 0, 1) := by decide +kernel
theorem dX4_readFactor_82 : decode cX4_readFactor 82 = .ok (.getfield 97, 3) := by decide +kernel
theorem dX4_readFactor_85 : decode cX4_readFactor 85 = .ok (.invokevirtual 100, 3) := by decide +kernel
theorem dX4_readFactor_88 : decode cX4_readFactor 88 = .ok (.return_, 1) := by decide +kernel
theorem dX4_readFactor_89 : decode cX4_readFactor 89 = .ok (.aload_n 0, 1) := by decide +kernel
theorem dX4_readFactor_90 : decode cX4_readFactor 90 = .ok (.invokevirtual 91, 3) := by decide +kernel
theorem dX4_readFactor_93 : decode cX4_readFactor 93 = .ok (.aload_n 0, 1) := by decide +kernel
theorem dX4_readFactor_94 : decode cX4_readFactor 94 = .ok (.iload_n 1, 1) := by decide +kernel
theorem dX4_readFactor_95 : decode cX4_readFactor 95 = .ok (.iconst 1, 1) := by decide +kernel
theorem dX4_readFactor_96 : decode cX4_readFactor 96 = .ok (.iadd, 1) := by decide +kernel
theorem dX4_readFactor_97 : decode cX4_readFactor 97 = .ok (.invokevirtual 128, 3) := by decide +kernel
theorem dX4_readFactor_100 : decode cX4_readFactor 100 = .ok (.iload_n 2, 1) := by decide +kernel
theorem dX4_readFactor_101 : decode cX4_readFactor 101 = .ok (.iconst (-1), 1) := by decide +kernel
theorem dX4_readFactor_102 : decode cX4_readFactor 102 = .ok (.if_icmp .eq 25, 3) := by decide +kernel
theorem dX4_readFactor_105 : decode cX4_readFactor 105 = .ok (.aload_n 0, 1) := by decide +kernel
theorem dX4_readFactor_106 : decode cX4_readFactor 106 = .ok (.bipush 44, 2) := by decide +kernel
theorem dX4_readFactor_108 : decode cX4_readFactor 108 = .ok (.invokevirtual 117, 3) := by decide +kernel
theorem dX4_readFactor_111 : decode cX4_readFactor 111 = .ok (.aload_n 0, 1) := by decide +kernel
theorem dX4_readFactor_112 : decode cX4_readFactor 112 = .ok (.iload_n 1, 1) := by decide +kernel
theorem dX4_readFactor_113 : decode cX4_readFactor 113 = .ok (.iconst 1, 1) := by decide +kernel
theorem dX4_readFactor_114 : decode cX4_readFactor 114 = .ok (.iadd, 1) := by decide +kernel
theorem dX4_readFactor_115 : decode cX4_readFactor 115 = .ok (.invokevirtual 128, 3) := by decide +kernel
theorem dX4_readFactor_118 : decode cX4_readFactor 118 = .ok (.aload_n 0, 1) := by decide +kernel
theorem dX4_readFactor_119 : decode cX4_readFactor 119 = .ok (.getfield 76, 3) := by decide +kernel
theorem dX4_readFactor_122 : decode cX4_readFactor 122 = .ok (.iload_n 2, 1) := by decide +kernel
theorem dX4_readFactor_123 : decode cX4_readFactor 123 = .ok (.iconst 0, 1) := by decide +kernel
theorem dX4_readFactor_124 : decode cX4_readFactor 124 = .ok (.invokevirtual 137, 3) := by decide +kernel
theorem dX4_readFactor_127 : decode cX4_readFactor 127 = .ok (.aload_n 0, 1) := by decide +kernel
theorem dX4_readFactor_128 : decode cX4_readFactor 128 = .ok (.bipush 41, 2) := by decide +kernel
theorem dX4_readFactor_130 : decode cX4_readFactor 130 = .ok (.invokevirtual 117, 3) := by decide +kernel
theorem dX4_readFactor_133 : decode cX4_readFactor 133 = .ok (.return_, 1) := by decide +kernel
theorem dX4_pairStep_0 : decode cX4_pairStep 0 = .ok (.aload_n 0, 1) := by decide +kernel
theorem dX4_pairStep_1 : decode cX4_pairStep 1 = .ok (.getfield 94, 3) := by decide +kernel
theorem dX4_pairStep_4 : decode cX4_pairStep 4 = .ok (.bipush 97, 2) := by decide +kernel
theorem dX4_pairStep_6 : decode cX4_pairStep 6 = .ok (.if_icmp .ne 18, 3) := by decide +kernel
theorem dX4_pairStep_9 : decode cX4_pairStep 9 = .ok (.aload_n 0, 1) := by decide +kernel
theorem dX4_pairStep_10 : decode cX4_pairStep 10 = .ok (.getfield 104, 3) := by decide +kernel
theorem dX4_pairStep_13 : decode cX4_pairStep 13 = .ok (.aload_n 0, 1) := by decide +kernel
theorem dX4_pairStep_14 : decode cX4_pairStep 14 = .ok (.getfield 33, 3) := by decide +kernel
theorem dX4_pairStep_17 : decode cX4_pairStep 17 = .ok (.lcmp, 1) := by decide +kernel
theorem dX4_pairStep_18 : decode cX4_pairStep 18 = .ok (.ifCond .ne 6, 3) := by decide +kernel
theorem dX4_pairStep_21 : decode cX4_pairStep 21 = .ok (.bipush 6, 2) := by decide +kernel
theorem dX4_pairStep_23 : decode cX4_pairStep 23 = .ok (.ireturn, 1) := by decide +kernel
theorem dX4_pairStep_24 : decode cX4_pairStep 24 = .ok (.aload_n 0, 1) := by decide +kernel
theorem dX4_pairStep_25 : decode cX4_pairStep 25 = .ok (.getfield 94, 3) := by decide +kernel
theorem dX4_pairStep_28 : decode cX4_pairStep 28 = .ok (.bipush 97, 2) := by decide +kernel
theorem dX4_pairStep_30 : decode cX4_pairStep 30 = .ok (.if_icmp .ne 20, 3) := by decide +kernel
theorem dX4_pairStep_33 : decode cX4_pairStep 33 = .ok (.aload_n 0, 1) := by decide +kernel
theorem dX4_pairStep_34 : decode cX4_pairStep 34 = .ok (.getfield 104, 3) := by decide +kernel
theorem dX4_pairStep_37 : decode cX4_pairStep 37 = .ok (.aload_n 0, 1) := by decide +kernel
theorem dX4_pairStep_38 : decode cX4_pairStep 38 = .ok (.getfield 38, 3) := by decide +kernel
theorem dX4_pairStep_41 : decode cX4_pairStep 41 = .ok (.lcmp, 1) := by decide +kernel
theorem dX4_pairStep_42 : decode cX4_pairStep 42 = .ok (.ifCond .ne 8, 3) := by decide +kernel
theorem dX4_pairStep_45 : decode cX4_pairStep 45 = .ok (.bipush 7, 2) := by decide +kernel
theorem dX4_pairStep_47 : decode cX4_pairStep 47 = .ok (.goto 4, 3) := by decide +kernel
theorem dX4_pairStep_50 : decode cX4_pairStep 50 = .ok (.iconst (-1), 1) := by decide +kernel
theorem dX4_pairStep_51 : decode cX4_pairStep 51 = .ok (.ireturn, 1) := by decide +kernel
theorem dX4_readDivisor_0 : decode cX4_readDivisor 0 = .ok (.aload_n 0, 1) := by decide +kernel
theorem dX4_readDivisor_1 : decode cX4_readDivisor 1 = .ok (.getfield 97, 3) := by decide +kernel
theorem dX4_readDivisor_4 : decode cX4_readDivisor 4 = .ok (.istore_n 1, 1) := by decide +kernel
theorem dX4_readDivisor_5 : decode cX4_readDivisor 5 = .ok (.aload_n 0, 1) := by decide +kernel
theorem dX4_readDivisor_6 : decode cX4_readDivisor 6 = .ok (.getfield 94, 3) := by decide +kernel
theorem dX4_readDivisor_9 : decode cX4_readDivisor 9 = .ok (.bipush 48, 2) := by decide +kernel
theorem dX4_readDivisor_11 : decode cX4_readDivisor 11 = .ok (.if_icmp .eq 12, 3) := by decide +kernel
theorem dX4_readDivisor_14 : decode cX4_readDivisor 14 = .ok (.aload_n 0, 1) := by decide +kernel
theorem dX4_readDivisor_15 : decode cX4_readDivisor 15 = .ok (.iconst 1, 1) := by decide +kernel
theorem dX4_readDivisor_16 : decode cX4_readDivisor 16 = .ok (.aload_n 0, 1) := by decide +kernel
theorem dX4_readDivisor_17 : decode cX4_readDivisor 17 = .ok (.getfield 97, 3) := by decide +kernel
theorem dX4_readDivisor_20 : decode cX4_readDivisor 20 = .ok (.invokevirtual 100, 3) := by decide +kernel
theorem dX4_readDivisor_23 : decode cX4_readDivisor 23 = .ok (.aload_n 0, 1) := by decide +kernel
theorem dX4_readDivisor_24 : decode cX4_readDivisor 24 = .ok (.invokevirtual 159, 3) := by decide +kernel
theorem dX4_readDivisor_27 : decode cX4_readDivisor 27 = .ok (.istore_n 2, 1) := by decide +kernel
theorem dX4_readDivisor_28 : decode cX4_readDivisor 28 = .ok (.iload_n 2, 1) := by decide +kernel
theorem dX4_readDivisor_29 : decode cX4_readDivisor 29 = .ok (.ifCond .ne 9, 3) := by decide +kernel
theorem dX4_readDivisor_32 : decode cX4_readDivisor 32 = .ok (.aload_n 0, 1) := by decide +kernel
theorem dX4_readDivisor_33 : decode cX4_readDivisor 33 = .ok (.iconst 2, 1) := by decide +kernel
theorem dX4_readDivisor_34 : decode cX4_readDivisor 34 = .ok (.iload_n 1, 1) := by decide +kernel
theorem dX4_readDivisor_35 : decode cX4_readDivisor 35 = .ok (.invokevirtual 100, 3) := by decide +kernel
theorem dX4_readDivisor_38 : decode cX4_readDivisor 38 = .ok (.aload_n 0, 1) := by decide +kernel
theorem dX4_readDivisor_39 : decode cX4_readDivisor 39 = .ok (.getfield 76, 3) := by decide +kernel
theorem dX4_readDivisor_42 : decode cX4_readDivisor 42 = .ok (.iconst 5, 1) := by decide +kernel
theorem dX4_readDivisor_43 : decode cX4_readDivisor 43 = .ok (.iload_n 2, 1) := by decide +kernel
theorem dX4_readDivisor_44 : decode cX4_readDivisor 44 = .ok (.invokevirtual 137, 3) := by decide +kernel
theorem dX4_readDivisor_47 : decode cX4_readDivisor 47 = .ok (.return_, 1) := by decide +kernel
theorem dX4_takeNumber_0 : decode cX4_takeNumber 0 = .ok (.aload_n 0, 1) := by decide +kernel
theorem dX4_takeNumber_1 : decode cX4_takeNumber 1 = .ok (.getfield 88, 3) := by decide +kernel
theorem dX4_takeNumber_4 : decode cX4_takeNumber 4 = .ok (.aload_n 0, 1) := by decide +kernel
theorem dX4_takeNumber_5 : decode cX4_takeNumber 5 = .ok (.getfield 97, 3) := by decide +kernel
theorem dX4_takeNumber_8 : decode cX4_takeNumber 8 = .ok (.isub, 1) := by decide +kernel
theorem dX4_takeNumber_9 : decode cX4_takeNumber 9 = .ok (.iconst 5, 1) := by decide +kernel
theorem dX4_takeNumber_10 : decode cX4_takeNumber 10 = .ok (.if_icmp .le 14, 3) := by decide +kernel
theorem dX4_takeNumber_13 : decode cX4_takeNumber 13 = .ok (.aload_n 0, 1) := by decide +kernel
theorem dX4_takeNumber_14 : decode cX4_takeNumber 14 = .ok (.iconst 1, 1) := by decide +kernel
theorem dX4_takeNumber_15 : decode cX4_takeNumber 15 = .ok (.aload_n 0, 1) := by decide +kernel
theorem dX4_takeNumber_16 : decode cX4_takeNumber 16 = .ok (.getfield 97, 3) := by decide +kernel
theorem dX4_takeNumber_19 : decode cX4_takeNumber 19 = .ok (.iconst 5, 1) := by decide +kernel
theorem dX4_takeNumber_20 : decode cX4_takeNumber 20 = .ok (.iadd, 1) := by decide +kernel
theorem dX4_takeNumber_21 : decode cX4_takeNumber 21 = .ok (.invokevirtual 100, 3) := by decide +kernel
theorem dX4_takeNumber_24 : decode cX4_takeNumber 24 = .ok (.aload_n 0, 1) := by decide +kernel
theorem dX4_takeNumber_25 : decode cX4_takeNumber 25 = .ok (.getfield 104, 3) := by decide +kernel
theorem dX4_takeNumber_28 : decode cX4_takeNumber 28 = .ok (.l2i, 1) := by decide +kernel
theorem dX4_takeNumber_29 : decode cX4_takeNumber 29 = .ok (.istore_n 1, 1) := by decide +kernel
theorem dX4_takeNumber_30 : decode cX4_takeNumber 30 = .ok (.aload_n 0, 1) := by decide +kernel
theorem dX4_takeNumber_31 : decode cX4_takeNumber 31 = .ok (.invokevirtual 91, 3) := by decide +kernel
theorem dX4_takeNumber_34 : decode cX4_takeNumber 34 = .ok (.iload_n 1, 1) := by decide +kernel
theorem dX4_takeNumber_35 : decode cX4_takeNumber 35 = .ok (.ireturn, 1) := by decide +kernel
theorem dX4_takeName_0 : decode cX4_takeName 0 = .ok (.aload_n 0, 1) := by decide +kernel
theorem dX4_takeName_1 : decode cX4_takeName 1 = .ok (.aload_n 0, 1) := by decide +kernel
theorem dX4_takeName_2 : decode cX4_takeName 2 = .ok (.getfield 104, 3) := by decide +kernel
theorem dX4_takeName_5 : decode cX4_takeName 5 = .ok (.invokevirtual 162, 3) := by decide +kernel
theorem dX4_takeName_8 : decode cX4_takeName 8 = .ok (.istore_n 2, 1) := by decide +kernel
theorem dX4_takeName_9 : decode cX4_takeName 9 = .ok (.aload_n 0, 1) := by decide +kernel
theorem dX4_takeName_10 : decode cX4_takeName 10 = .ok (.aload_n 0, 1) := by decide +kernel
theorem dX4_takeName_11 : decode cX4_takeName 11 = .ok (.getfield 104, 3) := by decide +kernel
theorem dX4_takeName_14 : decode cX4_takeName 14 = .ok (.invokevirtual 166, 3) := by decide +kernel
theorem dX4_takeName_17 : decode cX4_takeName 17 = .ok (.ifCond .eq 15, 3) := by decide +kernel
theorem dX4_takeName_20 : decode cX4_takeName 20 = .ok (.aload_n 0, 1) := by decide +kernel
theorem dX4_takeName_21 : decode cX4_takeName 21 = .ok (.iconst 1, 1) := by decide +kernel
theorem dX4_takeName_22 : decode cX4_takeName 22 = .ok (.aload_n 0, 1) := by decide +kernel
theorem dX4_takeName_23 : decode cX4_takeName 23 = .ok (.getfield 97, 3) := by decide +kernel
theorem dX4_takeName_26 : decode cX4_takeName 26 = .ok (.invokevirtual 100, 3) := by decide +kernel
theorem dX4_takeName_29 : decode cX4_takeName 29 = .ok (.goto 55, 3) := by decide +kernel
theorem dX4_takeName_32 : decode cX4_takeName 32 = .ok (.aload_n 0, 1) := by decide +kernel
theorem dX4_takeName_33 : decode cX4_takeName 33 = .ok (.getfield 88, 3) := by decide +kernel
theorem dX4_takeName_36 : decode cX4_takeName 36 = .ok (.aload_n 0, 1) := by decide +kernel
theorem dX4_takeName_37 : decode cX4_takeName 37 = .ok (.getfield 97, 3) := by decide +kernel
theorem dX4_takeName_40 : decode cX4_takeName 40 = .ok (.isub, 1) := by decide +kernel
theorem dX4_takeName_41 : decode cX4_takeName 41 = .ok (.bipush 10, 2) := by decide +kernel
theorem dX4_takeName_43 : decode cX4_takeName 43 = .ok (.if_icmp .le 18, 3) := by decide +kernel
theorem dX4_takeName_46 : decode cX4_takeName 46 = .ok (.aload_n 0, 1) := by decide +kernel
theorem dX4_takeName_47 : decode cX4_takeName 47 = .ok (.iconst 1, 1) := by decide +kernel
theorem dX4_takeName_48 : decode cX4_takeName 48 = .ok (.aload_n 0, 1) := by decide +kernel
theorem dX4_takeName_49 : decode cX4_takeName 49 = .ok (.getfield 97, 3) := by decide +kernel
theorem dX4_takeName_52 : decode cX4_takeName 52 = .ok (.bipush 10, 2) := by decide +kernel
theorem dX4_takeName_54 : decode cX4_takeName 54 = .ok (.iadd, 1) := by decide +kernel
theorem dX4_takeName_55 : decode cX4_takeName 55 = .ok (.invokevirtual 100, 3) := by decide +kernel
theorem dX4_takeName_58 : decode cX4_takeName 58 = .ok (.goto 26, 3) := by decide +kernel
theorem dX4_takeName_61 : decode cX4_takeName 61 = .ok (.iload_n 2, 1) := by decide +kernel
theorem dX4_takeName_62 : decode cX4_takeName 62 = .ok (.iconst (-1), 1) := by decide +kernel
theorem dX4_takeName_63 : decode cX4_takeName 63 = .ok (.if_icmp .eq 7, 3) := by decide +kernel
theorem dX4_takeName_66 : decode cX4_takeName 66 = .ok (.iconst 1, 1) := by decide +kernel
theorem dX4_takeName_67 : decode cX4_takeName 67 = .ok (.goto 4, 3) := by decide +kernel
theorem dX4_takeName_70 : decode cX4_takeName 70 = .ok (.iconst 0, 1) := by decide +kernel
theorem dX4_takeName_71 : decode cX4_takeName 71 = .ok (.iload_n 1, 1) := by decide +kernel
theorem dX4_takeName_72 : decode cX4_takeName 72 = .ok (.if_icmp .eq 12, 3) := by decide +kernel
theorem dX4_takeName_75 : decode cX4_takeName 75 = .ok (.aload_n 0, 1) := by decide +kernel
theorem dX4_takeName_76 : decode cX4_takeName 76 = .ok (.iconst 3, 1) := by decide +kernel
theorem dX4_takeName_77 : decode cX4_takeName 77 = .ok (.aload_n 0, 1) := by decide +kernel
theorem dX4_takeName_78 : decode cX4_takeName 78 = .ok (.getfield 97, 3) := by decide +kernel
theorem dX4_takeName_81 : decode cX4_takeName 81 = .ok (.invokevirtual 100, 3) := by decide +kernel
theorem dX4_takeName_84 : decode cX4_takeName 84 = .ok (.aload_n 0, 1) := by decide +kernel
theorem dX4_takeName_85 : decode cX4_takeName 85 = .ok (.invokevirtual 91, 3) := by decide +kernel
theorem dX4_takeName_88 : decode cX4_takeName 88 = .ok (.iload_n 2, 1) := by decide +kernel
theorem dX4_takeName_89 : decode cX4_takeName 89 = .ok (.ireturn, 1) := by decide +kernel
theorem dX4_isKept_0 : decode cX4_isKept 0 = .ok (.lload_n 1, 1) := by decide +kernel
theorem dX4_isKept_1 : decode cX4_isKept 1 = .ok (.aload_n 0, 1) := by decide +kernel
theorem dX4_isKept_2 : decode cX4_isKept 2 = .ok (.getfield 17, 3) := by decide +kernel
theorem dX4_isKept_5 : decode cX4_isKept 5 = .ok (.lcmp, 1) := by decide +kernel
theorem dX4_isKept_6 : decode cX4_isKept 6 = .ok (.ifCond .eq 39, 3) := by decide +kernel
theorem dX4_isKept_9 : decode cX4_isKept 9 = .ok (.lload_n 1, 1) := by decide +kernel
theorem dX4_isKept_10 : decode cX4_isKept 10 = .ok (.aload_n 0, 1) := by decide +kernel
theorem dX4_isKept_11 : decode cX4_isKept 11 = .ok (.getfield 23, 3) := by decide +kernel
theorem dX4_isKept_14 : decode cX4_isKept 14 = .ok (.lcmp, 1) := by decide +kernel
theorem dX4_isKept_15 : decode cX4_isKept 15 = .ok (.ifCond .eq 30, 3) := by decide +kernel
theorem dX4_isKept_18 : decode cX4_isKept 18 = .ok (.lload_n 1, 1) := by decide +kernel
theorem dX4_isKept_19 : decode cX4_isKept 19 = .ok (.aload_n 0, 1) := by decide +kernel
theorem dX4_isKept_20 : decode cX4_isKept 20 = .ok (.getfield 28, 3) := by decide +kernel
theorem dX4_isKept_23 : decode cX4_isKept 23 = .ok (.lcmp, 1) := by decide +kernel
theorem dX4_isKept_24 : decode cX4_isKept 24 = .ok (.ifCond .eq 21, 3) := by decide +kernel
theorem dX4_isKept_27 : decode cX4_isKept 27 = .ok (.lload_n 1, 1) := by decide +kernel
theorem dX4_isKept_28 : decode cX4_isKept 28 = .ok (.aload_n 0, 1) := by decide +kernel
theorem dX4_isKept_29 : decode cX4_isKept 29 = .ok (.getfield 33, 3) := by decide +kernel
theorem dX4_isKept_32 : decode cX4_isKept 32 = .ok (.lcmp, 1) := by decide +kernel
theorem dX4_isKept_33 : decode cX4_isKept 33 = .ok (.ifCond .eq 12, 3) := by decide +kernel
theorem dX4_isKept_36 : decode cX4_isKept 36 = .ok (.lload_n 1, 1) := by decide +kernel
theorem dX4_isKept_37 : decode cX4_isKept 37 = .ok (.aload_n 0, 1) := by decide +kernel
theorem dX4_isKept_38 : decode cX4_isKept 38 = .ok (.getfield 38, 3) := by decide +kernel
theorem dX4_isKept_41 : decode cX4_isKept 41 = .ok (.lcmp, 1) := by decide +kernel
theorem dX4_isKept_42 : decode cX4_isKept 42 = .ok (.ifCond .ne 7, 3) := by decide +kernel
theorem dX4_isKept_45 : decode cX4_isKept 45 = .ok (.iconst 1, 1) := by decide +kernel
theorem dX4_isKept_46 : decode cX4_isKept 46 = .ok (.goto 4, 3) := by decide +kernel
theorem dX4_isKept_49 : decode cX4_isKept 49 = .ok (.iconst 0, 1) := by decide +kernel
theorem dX4_isKept_50 : decode cX4_isKept 50 = .ok (.ireturn, 1) := by decide +kernel
theorem dX4_slotOf_0 : decode cX4_slotOf 0 = .ok (.iconst 0, 1) := by decide +kernel
theorem dX4_slotOf_1 : decode cX4_slotOf 1 = .ok (.istore_n 3, 1) := by decide +kernel
theorem dX4_slotOf_2 : decode cX4_slotOf 2 = .ok (.iload_n 3, 1) := by decide +kernel
theorem dX4_slotOf_3 : decode cX4_slotOf 3 = .ok (.bipush 39, 2) := by decide +kernel
theorem dX4_slotOf_5 : decode cX4_slotOf 5 = .ok (.if_icmp .ge 22, 3) := by decide +kernel
theorem dX4_slotOf_8 : decode cX4_slotOf 8 = .ok (.aload_n 0, 1) := by decide +kernel
theorem dX4_slotOf_9 : decode cX4_slotOf 9 = .ok (.getfield 48, 3) := by decide +kernel
theorem dX4_slotOf_12 : decode cX4_slotOf 12 = .ok (.iload_n 3, 1) := by decide +kernel
theorem dX4_slotOf_13 : decode cX4_slotOf 13 = .ok (.laload, 1) := by decide +kernel
theorem dX4_slotOf_14 : decode cX4_slotOf 14 = .ok (.lload_n 1, 1) := by decide +kernel
theorem dX4_slotOf_15 : decode cX4_slotOf 15 = .ok (.lcmp, 1) := by decide +kernel
theorem dX4_slotOf_16 : decode cX4_slotOf 16 = .ok (.ifCond .ne 5, 3) := by decide +kernel
theorem dX4_slotOf_19 : decode cX4_slotOf 19 = .ok (.iload_n 3, 1) := by decide +kernel
theorem dX4_slotOf_20 : decode cX4_slotOf 20 = .ok (.ireturn, 1) := by decide +kernel
theorem dX4_slotOf_21 : decode cX4_slotOf 21 = .ok (.iinc 3 1, 3) := by decide +kernel
theorem dX4_slotOf_24 : decode cX4_slotOf 24 = .ok (.goto (-22), 3) := by decide +kernel
theorem dX4_slotOf_27 : decode cX4_slotOf 27 = .ok (.iconst (-1), 1) := by decide +kernel
theorem dX4_slotOf_28 : decode cX4_slotOf 28 = .ok (.ireturn, 1) := by decide +kernel
theorem dX4_expect_0 : decode cX4_expect 0 = .ok (.aload_n 0, 1) := by decide +kernel
theorem dX4_expect_1 : decode cX4_expect 1 = .ok (.getfield 94, 3) := by decide +kernel
theorem dX4_expect_4 : decode cX4_expect 4 = .ok (.iload_n 1, 1) := by decide +kernel
theorem dX4_expect_5 : decode cX4_expect 5 = .ok (.if_icmp .eq 12, 3) := by decide +kernel
theorem dX4_expect_8 : decode cX4_expect 8 = .ok (.aload_n 0, 1) := by decide +kernel
theorem dX4_expect_9 : decode cX4_expect 9 = .ok (.iconst 1, 1) := by decide +kernel
theorem dX4_expect_10 : decode cX4_expect 10 = .ok (.aload_n 0, 1) := by decide +kernel
theorem dX4_expect_11 : decode cX4_expect 11 = .ok (.getfield 97, 3) := by decide +kernel
theorem dX4_expect_14 : decode cX4_expect 14 = .ok (.invokevirtual 100, 3) := by decide +kernel
theorem dX4_expect_17 : decode cX4_expect 17 = .ok (.aload_n 0, 1) := by decide +kernel
theorem dX4_expect_18 : decode cX4_expect 18 = .ok (.invokevirtual 91, 3) := by decide +kernel
theorem dX4_expect_21 : decode cX4_expect 21 = .ok (.return_, 1) := by decide +kernel
theorem dX4_fail_0 : decode cX4_fail 0 = .ok (.aload_n 0, 1) := by decide +kernel
theorem dX4_fail_1 : decode cX4_fail 1 = .ok (.getfield 85, 3) := by decide +kernel
theorem dX4_fail_4 : decode cX4_fail 4 = .ok (.ifCond .ne 13, 3) := by decide +kernel
theorem dX4_fail_7 : decode cX4_fail 7 = .ok (.aload_n 0, 1) := by decide +kernel
theorem dX4_fail_8 : decode cX4_fail 8 = .ok (.iload_n 1, 1) := by decide +kernel
theorem dX4_fail_9 : decode cX4_fail 9 = .ok (.putfield 85, 3) := by decide +kernel
theorem dX4_fail_12 : decode cX4_fail 12 = .ok (.aload_n 0, 1) := by decide +kernel
theorem dX4_fail_13 : decode cX4_fail 13 = .ok (.iload_n 2, 1) := by decide +kernel
theorem dX4_fail_14 : decode cX4_fail 14 = .ok (.putfield 52, 3) := by decide +kernel
theorem dX4_fail_17 : decode cX4_fail 17 = .ok (.aload_n 0, 1) := by decide +kernel
theorem dX4_fail_18 : decode cX4_fail 18 = .ok (.aload_n 0, 1) := by decide +kernel
theorem dX4_fail_19 : decode cX4_fail 19 = .ok (.getfield 56, 3) := by decide +kernel
theorem dX4_fail_22 : decode cX4_fail 22 = .ok (.getfield 124, 3) := by decide +kernel
theorem dX4_fail_25 : decode cX4_fail 25 = .ok (.putfield 88, 3) := by decide +kernel
theorem dX4_fail_28 : decode cX4_fail 28 = .ok (.aload_n 0, 1) := by decide +kernel
theorem dX4_fail_29 : decode cX4_fail 29 = .ok (.iconst (-1), 1) := by decide +kernel
theorem dX4_fail_30 : decode cX4_fail 30 = .ok (.putfield 94, 3) := by decide +kernel
theorem dX4_fail_33 : decode cX4_fail 33 = .ok (.return_, 1) := by decide +kernel
theorem dX4_advance_0 : decode cX4_advance 0 = .ok (.aload_n 0, 1) := by decide +kernel
theorem dX4_advance_1 : decode cX4_advance 1 = .ok (.getfield 56, 3) := by decide +kernel
theorem dX4_advance_4 : decode cX4_advance 4 = .ok (.getfield 170, 3) := by decide +kernel
theorem dX4_advance_7 : decode cX4_advance 7 = .ok (.astore_n 1, 1) := by decide +kernel
theorem dX4_advance_8 : decode cX4_advance 8 = .ok (.aload_n 0, 1) := by decide +kernel
theorem dX4_advance_9 : decode cX4_advance 9 = .ok (.getfield 56, 3) := by decide +kernel
theorem dX4_advance_12 : decode cX4_advance 12 = .ok (.getfield 124, 3) := by decide +kernel
theorem dX4_advance_15 : decode cX4_advance 15 = .ok (.istore_n 2, 1) := by decide +kernel
theorem dX4_advance_16 : decode cX4_advance 16 = .ok (.aload_n 0, 1) := by decide +kernel
theorem dX4_advance_17 : decode cX4_advance 17 = .ok (.getfield 88, 3) := by decide +kernel
theorem dX4_advance_20 : decode cX4_advance 20 = .ok (.iload_n 2, 1) := by decide +kernel
theorem dX4_advance_21 : decode cX4_advance 21 = .ok (.if_icmp .ge 38, 3) := by decide +kernel
theorem dX4_advance_24 : decode cX4_advance 24 = .ok (.aload_n 1, 1) := by decide +kernel
theorem dX4_advance_25 : decode cX4_advance 25 = .ok (.aload_n 0, 1) := by decide +kernel
theorem dX4_advance_26 : decode cX4_advance 26 = .ok (.getfield 88, 3) := by decide +kernel
theorem dX4_advance_29 : decode cX4_advance 29 = .ok (.iaload, 1) := by decide +kernel
theorem dX4_advance_30 : decode cX4_advance 30 = .ok (.bipush 32, 2) := by decide +kernel
theorem dX4_advance_32 : decode cX4_advance 32 = .ok (.if_icmp .eq 14, 3) := by decide +kernel
theorem dX4_advance_35 : decode cX4_advance 35 = .ok (.aload_n 1, 1) := by decide +kernel
theorem dX4_advance_36 : decode cX4_advance 36 = .ok (.aload_n 0, 1) := by decide +kernel
theorem dX4_advance_37 : decode cX4_advance 37 = .ok (.getfield 88, 3) := by decide +kernel
theorem dX4_advance_40 : decode cX4_advance 40 = .ok (.iaload, 1) := by decide +kernel
theorem dX4_advance_41 : decode cX4_advance 41 = .ok (.bipush 10, 2) := by decide +kernel
theorem dX4_advance_43 : decode cX4_advance 43 = .ok (.if_icmp .ne 16, 3) := by decide +kernel
theorem dX4_advance_46 : decode cX4_advance 46 = .ok (.aload_n 0, 1) := by decide +kernel
theorem dX4_advance_47 : decode cX4_advance 47 = .ok (.dup, 1) := by decide +kernel
theorem dX4_advance_48 : decode cX4_advance 48 = .ok (.getfield 88, 3) := by decide +kernel
theorem dX4_advance_51 : decode cX4_advance 51 = .ok (.iconst 1, 1) := by decide +kernel
theorem dX4_advance_52 : decode cX4_advance 52 = .ok (.iadd, 1) := by decide +kernel
theorem dX4_advance_53 : decode cX4_advance 53 = .ok (.putfield 88, 3) := by decide +kernel
theorem dX4_advance_56 : decode cX4_advance 56 = .ok (.goto (-40), 3) := by decide +kernel
theorem dX4_advance_59 : decode cX4_advance 59 = .ok (.aload_n 0, 1) := by decide +kernel
theorem dX4_advance_60 : decode cX4_advance 60 = .ok (.aload_n 0, 1) := by decide +kernel
theorem dX4_advance_61 : decode cX4_advance 61 = .ok (.getfield 88, 3) := by decide +kernel
theorem dX4_advance_64 : decode cX4_advance 64 = .ok (.putfield 97, 3) := by decide +kernel
theorem dX4_advance_67 : decode cX4_advance 67 = .ok (.aload_n 0, 1) := by decide +kernel
theorem dX4_advance_68 : decode cX4_advance 68 = .ok (.lconst 0, 1) := by decide +kernel
theorem dX4_advance_69 : decode cX4_advance 69 = .ok (.putfield 104, 3) := by decide +kernel
theorem dX4_advance_72 : decode cX4_advance 72 = .ok (.aload_n 0, 1) := by decide +kernel
theorem dX4_advance_73 : decode cX4_advance 73 = .ok (.aload_n 0, 1) := by decide +kernel
theorem dX4_advance_74 : decode cX4_advance 74 = .ok (.getfield 88, 3) := by decide +kernel
theorem dX4_advance_77 : decode cX4_advance 77 = .ok (.iload_n 2, 1) := by decide +kernel
theorem dX4_advance_78 : decode cX4_advance 78 = .ok (.if_icmp .ge 12, 3) := by decide +kernel
theorem dX4_advance_81 : decode cX4_advance 81 = .ok (.aload_n 1, 1) := by decide +kernel
theorem dX4_advance_82 : decode cX4_advance 82 = .ok (.aload_n 0, 1) := by decide +kernel
theorem dX4_advance_83 : decode cX4_advance 83 = .ok (.getfield 88, 3) := by decide +kernel
theorem dX4_advance_86 : decode cX4_advance 86 = .ok (.iaload, 1) := by decide +kernel
theorem dX4_advance_87 : decode cX4_advance 87 = .ok (.goto 4, 3) := by decide +kernel
theorem dX4_advance_90 : decode cX4_advance 90 = .ok (.iconst (-1), 1) := by decide +kernel
theorem dX4_advance_91 : decode cX4_advance 91 = .ok (.putfield 94, 3) := by decide +kernel
theorem dX4_advance_94 : decode cX4_advance 94 = .ok (.aload_n 0, 1) := by decide +kernel
theorem dX4_advance_95 : decode cX4_advance 95 = .ok (.getfield 94, 3) := by decide +kernel
theorem dX4_advance_98 : decode cX4_advance 98 = .ok (.bipush 97, 2) := by decide +kernel
theorem dX4_advance_100 : decode cX4_advance 100 = .ok (.if_icmp .lt 82, 3) := by decide +kernel
theorem dX4_advance_103 : decode cX4_advance 103 = .ok (.aload_n 0, 1) := by decide +kernel
theorem dX4_advance_104 : decode cX4_advance 104 = .ok (.getfield 94, 3) := by decide +kernel
theorem dX4_advance_107 : decode cX4_advance 107 = .ok (.bipush 122, 2) := by decide +kernel
theorem dX4_advance_109 : decode cX4_advance 109 = .ok (.if_icmp .gt 73, 3) := by decide +kernel
theorem dX4_advance_112 : decode cX4_advance 112 = .ok (.aload_n 0, 1) := by decide +kernel
theorem dX4_advance_113 : decode cX4_advance 113 = .ok (.bipush 97, 2) := by decide +kernel
theorem dX4_advance_115 : decode cX4_advance 115 = .ok (.putfield 94, 3) := by decide +kernel
theorem dX4_advance_118 : decode cX4_advance 118 = .ok (.aload_n 0, 1) := by decide +kernel
theorem dX4_advance_119 : decode cX4_advance 119 = .ok (.getfield 88, 3) := by decide +kernel
theorem dX4_advance_122 : decode cX4_advance 122 = .ok (.iload_n 2, 1) := by decide +kernel
theorem dX4_advance_123 : decode cX4_advance 123 = .ok (.if_icmp .ge 167, 3) := by decide +kernel
theorem dX4_advance_126 : decode cX4_advance 126 = .ok (.aload_n 1, 1) := by decide +kernel
theorem dX4_advance_127 : decode cX4_advance 127 = .ok (.aload_n 0, 1) := by decide +kernel
theorem dX4_advance_128 : decode cX4_advance 128 = .ok (.getfield 88, 3) := by decide +kernel
theorem dX4_advance_131 : decode cX4_advance 131 = .ok (.iaload, 1) := by decide +kernel
theorem dX4_advance_132 : decode cX4_advance 132 = .ok (.bipush 97, 2) := by decide +kernel
theorem dX4_advance_134 : decode cX4_advance 134 = .ok (.if_icmp .lt 156, 3) := by decide +kernel
theorem dX4_advance_137 : decode cX4_advance 137 = .ok (.aload_n 1, 1) := by decide +kernel
theorem dX4_advance_138 : decode cX4_advance 138 = .ok (.aload_n 0, 1) := by decide +kernel
theorem dX4_advance_139 : decode cX4_advance 139 = .ok (.getfield 88, 3) := by decide +kernel
theorem dX4_advance_142 : decode cX4_advance 142 = .ok (.iaload, 1) := by decide +kernel
theorem dX4_advance_143 : decode cX4_advance 143 = .ok (.bipush 122, 2) := by decide +kernel
theorem dX4_advance_145 : decode cX4_advance 145 = .ok (.if_icmp .gt 145, 3) := by decide +kernel
theorem dX4_advance_148 : decode cX4_advance 148 = .ok (.aload_n 0, 1) := by decide +kernel
theorem dX4_advance_149 : decode cX4_advance 149 = .ok (.aload_n 0, 1) := by decide +kernel
theorem dX4_advance_150 : decode cX4_advance 150 = .ok (.getfield 104, 3) := by decide +kernel
theorem dX4_advance_153 : decode cX4_advance 153 = .ok (.iconst 5, 1) := by decide +kernel
theorem dX4_advance_154 : decode cX4_advance 154 = .ok (.lshl, 1) := by decide +kernel
theorem dX4_advance_155 : decode cX4_advance 155 = .ok (.aload_n 1, 1) := by decide +kernel
theorem dX4_advance_156 : decode cX4_advance 156 = .ok (.aload_n 0, 1) := by decide +kernel
theorem dX4_advance_157 : decode cX4_advance 157 = .ok (.getfield 88, 3) := by decide +kernel
theorem dX4_advance_160 : decode cX4_advance 160 = .ok (.iaload, 1) := by decide +kernel
theorem dX4_advance_161 : decode cX4_advance 161 = .ok (.bipush 96, 2) := by decide +kernel
theorem dX4_advance_163 : decode cX4_advance 163 = .ok (.isub, 1) := by decide +kernel
theorem dX4_advance_164 : decode cX4_advance 164 = .ok (.i2l, 1) := by decide +kernel
theorem dX4_advance_165 : decode cX4_advance 165 = .ok (.lor, 1) := by decide +kernel
theorem dX4_advance_166 : decode cX4_advance 166 = .ok (.putfield 104, 3) := by decide +kernel
theorem dX4_advance_169 : decode cX4_advance 169 = .ok (.aload_n 0, 1) := by decide +kernel
theorem dX4_advance_170 : decode cX4_advance 170 = .ok (.dup, 1) := by decide +kernel
theorem dX4_advance_171 : decode cX4_advance 171 = .ok (.getfield 88, 3) := by decide +kernel
theorem dX4_advance_174 : decode cX4_advance 174 = .ok (.iconst 1, 1) := by decide +kernel
theorem dX4_advance_175 : decode cX4_advance 175 = .ok (.iadd, 1) := by decide +kernel
theorem dX4_advance_176 : decode cX4_advance 176 = .ok (.putfield 88, 3) := by decide +kernel
theorem dX4_advance_179 : decode cX4_advance 179 = .ok (.goto (-61), 3) := by decide +kernel
theorem dX4_advance_182 : decode cX4_advance 182 = .ok (.aload_n 0, 1) := by decide +kernel
theorem dX4_advance_183 : decode cX4_advance 183 = .ok (.getfield 94, 3) := by decide +kernel
theorem dX4_advance_186 : decode cX4_advance 186 = .ok (.bipush 48, 2) := by decide +kernel
theorem dX4_advance_188 : decode cX4_advance 188 = .ok (.if_icmp .lt 84, 3) := by decide +kernel
theorem dX4_advance_191 : decode cX4_advance 191 = .ok (.aload_n 0, 1) := by decide +kernel
theorem dX4_advance_192 : decode cX4_advance 192 = .ok (.getfield 94, 3) := by decide +kernel
theorem dX4_advance_195 : decode cX4_advance 195 = .ok (.bipush 57, 2) := by decide +kernel
theorem dX4_advance_197 : decode cX4_advance 197 = .ok (.if_icmp .gt 75, 3) := by decide +kernel
theorem dX4_advance_200 : decode cX4_advance 200 = .ok (.aload_n 0, 1) := by decide +kernel
theorem dX4_advance_201 : decode cX4_advance 201 = .ok (.bipush 48, 2) := by decide +kernel
theorem dX4_advance_203 : decode cX4_advance 203 = .ok (.putfield 94, 3) := by decide +kernel
theorem dX4_advance_206 : decode cX4_advance 206 = .ok (.aload_n 0, 1) := by decide +kernel
theorem dX4_advance_207 : decode cX4_advance 207 = .ok (.getfield 88, 3) := by decide +kernel
theorem dX4_advance_210 : decode cX4_advance 210 = .ok (.iload_n 2, 1) := by decide +kernel
theorem dX4_advance_211 : decode cX4_advance 211 = .ok (.if_icmp .ge 79, 3) := by decide +kernel
theorem dX4_advance_214 : decode cX4_advance 214 = .ok (.aload_n 1, 1) := by decide +kernel
theorem dX4_advance_215 : decode cX4_advance 215 = .ok (.aload_n 0, 1) := by decide +kernel
theorem dX4_advance_216 : decode cX4_advance 216 = .ok (.getfield 88, 3) := by decide +kernel
theorem dX4_advance_219 : decode cX4_advance 219 = .ok (.iaload, 1) := by decide +kernel
theorem dX4_advance_220 : decode cX4_advance 220 = .ok (.bipush 48, 2) := by decide +kernel
theorem dX4_advance_222 : decode cX4_advance 222 = .ok (.if_icmp .lt 68, 3) := by decide +kernel
theorem dX4_advance_225 : decode cX4_advance 225 = .ok (.aload_n 1, 1) := by decide +kernel
theorem dX4_advance_226 : decode cX4_advance 226 = .ok (.aload_n 0, 1) := by decide +kernel
theorem dX4_advance_227 : decode cX4_advance 227 = .ok (.getfield 88, 3) := by decide +kernel
theorem dX4_advance_230 : decode cX4_advance 230 = .ok (.iaload, 1) := by decide +kernel
theorem dX4_advance_231 : decode cX4_advance 231 = .ok (.bipush 57, 2) := by decide +kernel
theorem dX4_advance_233 : decode cX4_advance 233 = .ok (.if_icmp .gt 57, 3) := by decide +kernel
theorem dX4_advance_236 : decode cX4_advance 236 = .ok (.aload_n 0, 1) := by decide +kernel
theorem dX4_advance_237 : decode cX4_advance 237 = .ok (.aload_n 0, 1) := by decide +kernel
theorem dX4_advance_238 : decode cX4_advance 238 = .ok (.getfield 104, 3) := by decide +kernel
theorem dX4_advance_241 : decode cX4_advance 241 = .ok (.ldc2_w 174, 3) := by decide +kernel
theorem dX4_advance_244 : decode cX4_advance 244 = .ok (.lmul, 1) := by decide +kernel
theorem dX4_advance_245 : decode cX4_advance 245 = .ok (.aload_n 1, 1) := by decide +kernel
theorem dX4_advance_246 : decode cX4_advance 246 = .ok (.aload_n 0, 1) := by decide +kernel
theorem dX4_advance_247 : decode cX4_advance 247 = .ok (.getfield 88, 3) := by decide +kernel
theorem dX4_advance_250 : decode cX4_advance 250 = .ok (.iaload, 1) := by decide +kernel
theorem dX4_advance_251 : decode cX4_advance 251 = .ok (.bipush 48, 2) := by decide +kernel
theorem dX4_advance_253 : decode cX4_advance 253 = .ok (.isub, 1) := by decide +kernel
theorem dX4_advance_254 : decode cX4_advance 254 = .ok (.i2l, 1) := by decide +kernel
theorem dX4_advance_255 : decode cX4_advance 255 = .ok (.ladd, 1) := by decide +kernel
theorem dX4_advance_256 : decode cX4_advance 256 = .ok (.putfield 104, 3) := by decide +kernel
theorem dX4_advance_259 : decode cX4_advance 259 = .ok (.aload_n 0, 1) := by decide +kernel
theorem dX4_advance_260 : decode cX4_advance 260 = .ok (.dup, 1) := by decide +kernel
theorem dX4_advance_261 : decode cX4_advance 261 = .ok (.getfield 88, 3) := by decide +kernel
theorem dX4_advance_264 : decode cX4_advance 264 = .ok (.iconst 1, 1) := by decide +kernel
theorem dX4_advance_265 : decode cX4_advance 265 = .ok (.iadd, 1) := by decide +kernel
theorem dX4_advance_266 : decode cX4_advance 266 = .ok (.putfield 88, 3) := by decide +kernel
theorem dX4_advance_269 : decode cX4_advance 269 = .ok (.goto (-63), 3) := by decide +kernel
theorem dX4_advance_272 : decode cX4_advance 272 = .ok (.aload_n 0, 1) := by decide +kernel
theorem dX4_advance_273 : decode cX4_advance 273 = .ok (.getfield 94, 3) := by decide +kernel
theorem dX4_advance_276 : decode cX4_advance 276 = .ok (.iconst (-1), 1) := by decide +kernel
theorem dX4_advance_277 : decode cX4_advance 277 = .ok (.if_icmp .eq 13, 3) := by decide +kernel
theorem dX4_advance_280 : decode cX4_advance 280 = .ok (.aload_n 0, 1) := by decide +kernel
theorem dX4_advance_281 : decode cX4_advance 281 = .ok (.dup, 1) := by decide +kernel
theorem dX4_advance_282 : decode cX4_advance 282 = .ok (.getfield 88, 3) := by decide +kernel
theorem dX4_advance_285 : decode cX4_advance 285 = .ok (.iconst 1, 1) := by decide +kernel
theorem dX4_advance_286 : decode cX4_advance 286 = .ok (.iadd, 1) := by decide +kernel
theorem dX4_advance_287 : decode cX4_advance 287 = .ok (.putfield 88, 3) := by decide +kernel
theorem dX4_advance_290 : decode cX4_advance 290 = .ok (.return_, 1) := by decide +kernel
theorem dX5_init_0 : decode cX5_init 0 = .ok (.aload_n 0, 1) := by decide +kernel
theorem dX5_init_1 : decode cX5_init 1 = .ok (.invokespecial 3, 3) := by decide +kernel
theorem dX5_init_4 : decode cX5_init 4 = .ok (.aload_n 0, 1) := by decide +kernel
theorem dX5_init_5 : decode cX5_init 5 = .ok (.bipush 24, 2) := by decide +kernel
theorem dX5_init_7 : decode cX5_init 7 = .ok (.newarray .int, 2) := by decide +kernel
theorem dX5_init_9 : decode cX5_init 9 = .ok (.putfield 11, 3) := by decide +kernel
theorem dX5_init_12 : decode cX5_init 12 = .ok (.aload_n 0, 1) := by decide +kernel
theorem dX5_init_13 : decode cX5_init 13 = .ok (.bipush 6, 2) := by decide +kernel
theorem dX5_init_15 : decode cX5_init 15 = .ok (.newarray .int, 2) := by decide +kernel
theorem dX5_init_17 : decode cX5_init 17 = .ok (.putfield 15, 3) := by decide +kernel
theorem dX5_init_20 : decode cX5_init 20 = .ok (.return_, 1) := by decide +kernel
theorem dX5_add_0 : decode cX5_add 0 = .ok (.aload_n 0, 1) := by decide +kernel
theorem dX5_add_1 : decode cX5_add 1 = .ok (.getfield 18, 3) := by decide +kernel
theorem dX5_add_4 : decode cX5_add 4 = .ok (.bipush 24, 2) := by decide +kernel
theorem dX5_add_6 : decode cX5_add 6 = .ok (.if_icmp .ge 21, 3) := by decide +kernel
theorem dX5_add_9 : decode cX5_add 9 = .ok (.iload_n 1, 1) := by decide +kernel
theorem dX5_add_10 : decode cX5_add 10 = .ok (.iconst (-1), 1) := by decide +kernel
theorem dX5_add_11 : decode cX5_add 11 = .ok (.iconst 5, 1) := by decide +kernel
theorem dX5_add_12 : decode cX5_add 12 = .ok (.invokestatic 22, 3) := by decide +kernel
theorem dX5_add_15 : decode cX5_add 15 = .ok (.ifCond .eq 12, 3) := by decide +kernel
theorem dX5_add_18 : decode cX5_add 18 = .ok (.aload_n 0, 1) := by decide +kernel
theorem dX5_add_19 : decode cX5_add 19 = .ok (.iload_n 1, 1) := by decide +kernel
theorem dX5_add_20 : decode cX5_add 20 = .ok (.invokevirtual 26, 3) := by decide +kernel
theorem dX5_add_23 : decode cX5_add 23 = .ok (.iconst 4, 1) := by decide +kernel
theorem dX5_add_24 : decode cX5_add 24 = .ok (.if_icmp .lt 5, 3) := by decide +kernel
theorem dX5_add_27 : decode cX5_add 27 = .ok (.iconst (-1), 1) := by decide +kernel
theorem dX5_add_28 : decode cX5_add 28 = .ok (.ireturn, 1) := by decide +kernel
theorem dX5_add_29 : decode cX5_add 29 = .ok (.iload_n 1, 1) := by decide +kernel
theorem dX5_add_30 : decode cX5_add 30 = .ok (.iconst (-1), 1) := by decide +kernel
theorem dX5_add_31 : decode cX5_add 31 = .ok (.if_icmp .eq 13, 3) := by decide +kernel
theorem dX5_add_34 : decode cX5_add 34 = .ok (.aload_n 0, 1) := by decide +kernel
theorem dX5_add_35 : decode cX5_add 35 = .ok (.getfield 15, 3) := by decide +kernel
theorem dX5_add_38 : decode cX5_add 38 = .ok (.iload_n 1, 1) := by decide +kernel
theorem dX5_add_39 : decode cX5_add 39 = .ok (.dup2, 1) := by decide +kernel
theorem dX5_add_40 : decode cX5_add 40 = .ok (.iaload, 1) := by decide +kernel
theorem dX5_add_41 : decode cX5_add 41 = .ok (.iconst 1, 1) := by decide +kernel
theorem dX5_add_42 : decode cX5_add 42 = .ok (.iadd, 1) := by decide +kernel
theorem dX5_add_43 : decode cX5_add 43 = .ok (.iastore, 1) := by decide +kernel
theorem dX5_add_44 : decode cX5_add 44 = .ok (.aload_n 0, 1) := by decide +kernel
theorem dX5_add_45 : decode cX5_add 45 = .ok (.getfield 11, 3) := by decide +kernel
theorem dX5_add_48 : decode cX5_add 48 = .ok (.aload_n 0, 1) := by decide +kernel
theorem dX5_add_49 : decode cX5_add 49 = .ok (.getfield 18, 3) := by decide +kernel
theorem dX5_add_52 : decode cX5_add 52 = .ok (.iload_n 1, 1) := by decide +kernel
theorem dX5_add_53 : decode cX5_add 53 = .ok (.iastore, 1) := by decide +kernel
theorem dX5_add_54 : decode cX5_add 54 = .ok (.aload_n 0, 1) := by decide +kernel
theorem dX5_add_55 : decode cX5_add 55 = .ok (.dup, 1) := by decide +kernel
theorem dX5_add_56 : decode cX5_add 56 = .ok (.getfield 18, 3) := by decide +kernel
theorem dX5_add_59 : decode cX5_add 59 = .ok (.iconst 1, 1) := by decide +kernel
theorem dX5_add_60 : decode cX5_add 60 = .ok (.iadd, 1) := by decide +kernel
theorem dX5_add_61 : decode cX5_add 61 = .ok (.putfield 18, 3) := by decide +kernel
theorem dX5_add_64 : decode cX5_add 64 = .ok (.aload_n 0, 1) := by decide +kernel
theorem dX5_add_65 : decode cX5_add 65 = .ok (.getfield 18, 3) := by decide +kernel
theorem dX5_add_68 : decode cX5_add 68 = .ok (.iconst 1, 1) := by decide +kernel
theorem dX5_add_69 : decode cX5_add 69 = .ok (.isub, 1) := by decide +kernel
theorem dX5_add_70 : decode cX5_add 70 = .ok (.ireturn, 1) := by decide +kernel
theorem dX5_has_0 : decode cX5_has 0 = .ok (.iload_n 1, 1) := by decide +kernel
theorem dX5_has_1 : decode cX5_has 1 = .ok (.iconst 0, 1) := by decide +kernel
theorem dX5_has_2 : decode cX5_has 2 = .ok (.aload_n 0, 1) := by decide +kernel
theorem dX5_has_3 : decode cX5_has 3 = .ok (.getfield 18, 3) := by decide +kernel
theorem dX5_has_6 : decode cX5_has 6 = .ok (.iconst 1, 1) := by decide +kernel
theorem dX5_has_7 : decode cX5_has 7 = .ok (.isub, 1) := by decide +kernel
theorem dX5_has_8 : decode cX5_has 8 = .ok (.invokestatic 22, 3) := by decide +kernel
theorem dX5_has_11 : decode cX5_has 11 = .ok (.ireturn, 1) := by decide +kernel
theorem dX5_teamOf_0 : decode cX5_teamOf 0 = .ok (.aload_n 0, 1) := by decide +kernel
theorem dX5_teamOf_1 : decode cX5_teamOf 1 = .ok (.iload_n 1, 1) := by decide +kernel
theorem dX5_teamOf_2 : decode cX5_teamOf 2 = .ok (.invokevirtual 30, 3) := by decide +kernel
theorem dX5_teamOf_5 : decode cX5_teamOf 5 = .ok (.ifCond .eq 12, 3) := by decide +kernel
theorem dX5_teamOf_8 : decode cX5_teamOf 8 = .ok (.aload_n 0, 1) := by decide +kernel
theorem dX5_teamOf_9 : decode cX5_teamOf 9 = .ok (.getfield 11, 3) := by decide +kernel
theorem dX5_teamOf_12 : decode cX5_teamOf 12 = .ok (.iload_n 1, 1) := by decide +kernel
theorem dX5_teamOf_13 : decode cX5_teamOf 13 = .ok (.iaload, 1) := by decide +kernel
theorem dX5_teamOf_14 : decode cX5_teamOf 14 = .ok (.goto 4, 3) := by decide +kernel
theorem dX5_teamOf_17 : decode cX5_teamOf 17 = .ok (.iconst (-1), 1) := by decide +kernel
theorem dX5_teamOf_18 : decode cX5_teamOf 18 = .ok (.ireturn, 1) := by decide +kernel
theorem dX5_sizeOfTeam_0 : decode cX5_sizeOfTeam 0 = .ok (.iload_n 1, 1) := by decide +kernel
theorem dX5_sizeOfTeam_1 : decode cX5_sizeOfTeam 1 = .ok (.iconst 0, 1) := by decide +kernel
theorem dX5_sizeOfTeam_2 : decode cX5_sizeOfTeam 2 = .ok (.iconst 5, 1) := by decide +kernel
theorem dX5_sizeOfTeam_3 : decode cX5_sizeOfTeam 3 = .ok (.invokestatic 22, 3) := by decide +kernel
theorem dX5_sizeOfTeam_6 : decode cX5_sizeOfTeam 6 = .ok (.ifCond .eq 12, 3) := by decide +kernel
theorem dX5_sizeOfTeam_9 : decode cX5_sizeOfTeam 9 = .ok (.aload_n 0, 1) := by decide +kernel
theorem dX5_sizeOfTeam_10 : decode cX5_sizeOfTeam 10 = .ok (.getfield 15, 3) := by decide +kernel
theorem dX5_sizeOfTeam_13 : decode cX5_sizeOfTeam 13 = .ok (.iload_n 1, 1) := by decide +kernel
theorem dX5_sizeOfTeam_14 : decode cX5_sizeOfTeam 14 = .ok (.iaload, 1) := by decide +kernel
theorem dX5_sizeOfTeam_15 : decode cX5_sizeOfTeam 15 = .ok (.goto 4, 3) := by decide +kernel
theorem dX5_sizeOfTeam_18 : decode cX5_sizeOfTeam 18 = .ok (.iconst 0, 1) := by decide +kernel
theorem dX5_sizeOfTeam_19 : decode cX5_sizeOfTeam 19 = .ok (.ireturn, 1) := by decide +kernel
theorem dX6_init_0 : decode cX6_init 0 = .ok (.aload_n 0, 1) := by decide +kernel
theorem dX6_init_1 : decode cX6_init 1 = .ok (.invokespecial 3, 3) := by decide +kernel
theorem dX6_init_4 : decode cX6_init 4 = .ok (.aload_n 0, 1) := by decide +kernel
theorem dX6_init_5 : decode cX6_init 5 = .ok (.sipush 600, 3) := by decide +kernel
theorem dX6_init_8 : decode cX6_init 8 = .ok (.newarray .int, 2) := by decide +kernel
theorem dX6_init_10 : decode cX6_init 10 = .ok (.putfield 11, 3) := by decide +kernel
theorem dX6_init_13 : decode cX6_init 13 = .ok (.aload_n 0, 1) := by decide +kernel
theorem dX6_init_14 : decode cX6_init 14 = .ok (.sipush 600, 3) := by decide +kernel
theorem dX6_init_17 : decode cX6_init 17 = .ok (.newarray .int, 2) := by decide +kernel
theorem dX6_init_19 : decode cX6_init 19 = .ok (.putfield 17, 3) := by decide +kernel
theorem dX6_init_22 : decode cX6_init 22 = .ok (.aload_n 0, 1) := by decide +kernel
theorem dX6_init_23 : decode cX6_init 23 = .ok (.bipush 24, 2) := by decide +kernel
theorem dX6_init_25 : decode cX6_init 25 = .ok (.newarray .int, 2) := by decide +kernel
theorem dX6_init_27 : decode cX6_init 27 = .ok (.putfield 20, 3) := by decide +kernel
theorem dX6_init_30 : decode cX6_init 30 = .ok (.aload_n 0, 1) := by decide +kernel
theorem dX6_init_31 : decode cX6_init 31 = .ok (.bipush 24, 2) := by decide +kernel
theorem dX6_init_33 : decode cX6_init 33 = .ok (.newarray .int, 2) := by decide +kernel
theorem dX6_init_35 : decode cX6_init 35 = .ok (.putfield 23, 3) := by decide +kernel
theorem dX6_init_38 : decode cX6_init 38 = .ok (.aload_n 0, 1) := by decide +kernel
theorem dX6_init_39 : decode cX6_init 39 = .ok (.bipush 32, 2) := by decide +kernel
theorem dX6_init_41 : decode cX6_init 41 = .ok (.newarray .long, 2) := by decide +kernel
theorem dX6_init_43 : decode cX6_init 43 = .ok (.putfield 26, 3) := by decide +kernel
theorem dX6_init_46 : decode cX6_init 46 = .ok (.aload_n 0, 1) := by decide +kernel
theorem dX6_init_47 : decode cX6_init 47 = .ok (.iconst (-1), 1) := by decide +kernel
theorem dX6_init_48 : decode cX6_init 48 = .ok (.putfield 30, 3) := by decide +kernel
theorem dX6_init_51 : decode cX6_init 51 = .ok (.return_, 1) := by decide +kernel
theorem dX6_clear_0 : decode cX6_clear 0 = .ok (.aload_n 0, 1) := by decide +kernel
theorem dX6_clear_1 : decode cX6_clear 1 = .ok (.iconst 0, 1) := by decide +kernel
theorem dX6_clear_2 : decode cX6_clear 2 = .ok (.putfield 34, 3) := by decide +kernel
theorem dX6_clear_5 : decode cX6_clear 5 = .ok (.aload_n 0, 1) := by decide +kernel
theorem dX6_clear_6 : decode cX6_clear 6 = .ok (.iconst 0, 1) := by decide +kernel
theorem dX6_clear_7 : decode cX6_clear 7 = .ok (.putfield 37, 3) := by decide +kernel
theorem dX6_clear_10 : decode cX6_clear 10 = .ok (.aload_n 0, 1) := by decide +kernel
theorem dX6_clear_11 : decode cX6_clear 11 = .ok (.iconst (-1), 1) := by decide +kernel
theorem dX6_clear_12 : decode cX6_clear 12 = .ok (.putfield 30, 3) := by decide +kernel
theorem dX6_clear_15 : decode cX6_clear 15 = .ok (.return_, 1) := by decide +kernel
theorem dX6_addStep_0 : decode cX6_addStep 0 = .ok (.aload_n 0, 1) := by decide +kernel
theorem dX6_addStep_1 : decode cX6_addStep 1 = .ok (.getfield 34, 3) := by decide +kernel
theorem dX6_addStep_4 : decode cX6_addStep 4 = .ok (.sipush 600, 3) := by decide +kernel
theorem dX6_addStep_7 : decode cX6_addStep 7 = .ok (.if_icmp .ge 33, 3) := by decide +kernel
theorem dX6_addStep_10 : decode cX6_addStep 10 = .ok (.aload_n 0, 1) := by decide +kernel
theorem dX6_addStep_11 : decode cX6_addStep 11 = .ok (.getfield 11, 3) := by decide +kernel
theorem dX6_addStep_14 : decode cX6_addStep 14 = .ok (.aload_n 0, 1) := by decide +kernel
theorem dX6_addStep_15 : decode cX6_addStep 15 = .ok (.getfield 34, 3) := by decide +kernel
theorem dX6_addStep_18 : decode cX6_addStep 18 = .ok (.iload_n 1, 1) := by decide +kernel
theorem dX6_addStep_19 : decode cX6_addStep 19 = .ok (.iastore, 1) := by decide +kernel
theorem dX6_addStep_20 : decode cX6_addStep 20 = .ok (.aload_n 0, 1) := by decide +kernel
theorem dX6_addStep_21 : decode cX6_addStep 21 = .ok (.getfield 17, 3) := by decide +kernel
theorem dX6_addStep_24 : decode cX6_addStep 24 = .ok (.aload_n 0, 1) := by decide +kernel
theorem dX6_addStep_25 : decode cX6_addStep 25 = .ok (.getfield 34, 3) := by decide +kernel
theorem dX6_addStep_28 : decode cX6_addStep 28 = .ok (.iload_n 2, 1) := by decide +kernel
theorem dX6_addStep_29 : decode cX6_addStep 29 = .ok (.iastore, 1) := by decide +kernel
theorem dX6_addStep_30 : decode cX6_addStep 30 = .ok (.aload_n 0, 1) := by decide +kernel
theorem dX6_addStep_31 : decode cX6_addStep 31 = .ok (.dup, 1) := by decide +kernel
theorem dX6_addStep_32 : decode cX6_addStep 32 = .ok (.getfield 34, 3) := by decide +kernel
theorem dX6_addStep_35 : decode cX6_addStep 35 = .ok (.iconst 1, 1) := by decide +kernel
theorem dX6_addStep_36 : decode cX6_addStep 36 = .ok (.iadd, 1) := by decide +kernel
theorem dX6_addStep_37 : decode cX6_addStep 37 = .ok (.putfield 34, 3) := by decide +kernel
theorem dX6_addStep_40 : decode cX6_addStep 40 = .ok (.return_, 1) := by decide +kernel
theorem dX6_closeStatement_0 : decode cX6_closeStatement 0 = .ok (.aload_n 0, 1) := by decide +kernel
theorem dX6_closeStatement_1 : decode cX6_closeStatement 1 = .ok (.getfield 37, 3) := by decide +kernel
theorem dX6_closeStatement_4 : decode cX6_closeStatement 4 = .ok (.bipush 24, 2) := by decide +kernel
theorem dX6_closeStatement_6 : decode cX6_closeStatement 6 = .ok (.if_icmp .ge 36, 3) := by decide +kernel
theorem dX6_closeStatement_9 : decode cX6_closeStatement 9 = .ok (.aload_n 0, 1) := by decide +kernel
theorem dX6_closeStatement_10 : decode cX6_closeStatement 10 = .ok (.getfield 23, 3) := by decide +kernel
theorem dX6_closeStatement_13 : decode cX6_closeStatement 13 = .ok (.aload_n 0, 1) := by decide +kernel
theorem dX6_closeStatement_14 : decode cX6_closeStatement 14 = .ok (.getfield 37, 3) := by decide +kernel
theorem dX6_closeStatement_17 : decode cX6_closeStatement 17 = .ok (.iload_n 1, 1) := by decide +kernel
theorem dX6_closeStatement_18 : decode cX6_closeStatement 18 = .ok (.iastore, 1) := by decide +kernel
theorem dX6_closeStatement_19 : decode cX6_closeStatement 19 = .ok (.aload_n 0, 1) := by decide +kernel
theorem dX6_closeStatement_20 : decode cX6_closeStatement 20 = .ok (.getfield 20, 3) := by decide +kernel
theorem dX6_closeStatement_23 : decode cX6_closeStatement 23 = .ok (.aload_n 0, 1) := by decide +kernel
theorem dX6_closeStatement_24 : decode cX6_closeStatement 24 = .ok (.getfield 37, 3) := by decide +kernel
theorem dX6_closeStatement_27 : decode cX6_closeStatement 27 = .ok (.aload_n 0, 1) := by decide +kernel
theorem dX6_closeStatement_28 : decode cX6_closeStatement 28 = .ok (.getfield 34, 3) := by decide +kernel
theorem dX6_closeStatement_31 : decode cX6_closeStatement 31 = .ok (.iastore, 1) := by decide +kernel
theorem dX6_closeStatement_32 : decode cX6_closeStatement 32 = .ok (.aload_n 0, 1) := by decide +kernel
theorem dX6_closeStatement_33 : decode cX6_closeStatement 33 = .ok (.dup, 1) := by decide +kernel
theorem dX6_closeStatement_34 : decode cX6_closeStatement 34 = .ok (.getfield 37, 3) := by decide +kernel
theorem dX6_closeStatement_37 : decode cX6_closeStatement 37 = .ok (.iconst 1, 1) := by decide +kernel
theorem dX6_closeStatement_38 : decode cX6_closeStatement 38 = .ok (.iadd, 1) := by decide +kernel
theorem dX6_closeStatement_39 : decode cX6_closeStatement 39 = .ok (.putfield 37, 3) := by decide +kernel
theorem dX6_closeStatement_42 : decode cX6_closeStatement 42 = .ok (.return_, 1) := by decide +kernel
theorem dX6_setTotal_0 : decode cX6_setTotal 0 = .ok (.aload_n 0, 1) := by decide +kernel
theorem dX6_setTotal_1 : decode cX6_setTotal 1 = .ok (.iload_n 1, 1) := by decide +kernel
theorem dX6_setTotal_2 : decode cX6_setTotal 2 = .ok (.putfield 30, 3) := by decide +kernel
theorem dX6_setTotal_5 : decode cX6_setTotal 5 = .ok (.return_, 1) := by decide +kernel
theorem dX6_hasTotal_0 : decode cX6_hasTotal 0 = .ok (.aload_n 0, 1) := by decide +kernel
theorem dX6_hasTotal_1 : decode cX6_hasTotal 1 = .ok (.getfield 30, 3) := by decide +kernel
theorem dX6_hasTotal_4 : decode cX6_hasTotal 4 = .ok (.iconst (-1), 1) := by decide +kernel
theorem dX6_hasTotal_5 : decode cX6_hasTotal 5 = .ok (.if_icmp .eq 7, 3) := by decide +kernel
theorem dX6_hasTotal_8 : decode cX6_hasTotal 8 = .ok (.iconst 1, 1) := by decide +kernel
theorem dX6_hasTotal_9 : decode cX6_hasTotal 9 = .ok (.goto 4, 3) := by decide +kernel
theorem dX6_hasTotal_12 : decode cX6_hasTotal 12 = .ok (.iconst 0, 1) := by decide +kernel
theorem dX6_hasTotal_13 : decode cX6_hasTotal 13 = .ok (.ireturn, 1) := by decide +kernel
theorem dX6_apply_0 : decode cX6_apply 0 = .ok (.aload_n 1, 1) := by decide +kernel
theorem dX6_apply_1 : decode cX6_apply 1 = .ok (.iconst 0, 1) := by decide +kernel
theorem dX6_apply_2 : decode cX6_apply 2 = .ok (.putfield 40, 3) := by decide +kernel
theorem dX6_apply_5 : decode cX6_apply 5 = .ok (.iconst 0, 1) := by decide +kernel
theorem dX6_apply_6 : decode cX6_apply 6 = .ok (.istore_n 2, 1) := by decide +kernel
theorem dX6_apply_7 : decode cX6_apply 7 = .ok (.iconst 0, 1) := by decide +kernel
theorem dX6_apply_8 : decode cX6_apply 8 = .ok (.istore_n 3, 1) := by decide +kernel
theorem dX6_apply_9 : decode cX6_apply 9 = .ok (.iload_n 3, 1) := by decide +kernel
theorem dX6_apply_10 : decode cX6_apply 10 = .ok (.aload_n 0, 1) := by decide +kernel
theorem dX6_apply_11 : decode cX6_apply 11 = .ok (.getfield 37, 3) := by decide +kernel
theorem dX6_apply_14 : decode cX6_apply 14 = .ok (.if_icmp .ge 63, 3) := by decide +kernel
theorem dX6_apply_17 : decode cX6_apply 17 = .ok (.aload_n 0, 1) := by decide +kernel
theorem dX6_apply_18 : decode cX6_apply 18 = .ok (.iload_n 2, 1) := by decide +kernel
theorem dX6_apply_19 : decode cX6_apply 19 = .ok (.aload_n 0, 1) := by decide +kernel
theorem dX6_apply_20 : decode cX6_apply 20 = .ok (.getfield 20, 3) := by decide +kernel
theorem dX6_apply_23 : decode cX6_apply 23 = .ok (.iload_n 3, 1) := by decide +kernel
theorem dX6_apply_24 : decode cX6_apply 24 = .ok (.iaload, 1) := by decide +kernel
theorem dX6_apply_25 : decode cX6_apply 25 = .ok (.aload_n 1, 1) := by decide +kernel
theorem dX6_apply_26 : decode cX6_apply 26 = .ok (.invokevirtual 46, 3) := by decide +kernel
theorem dX6_apply_29 : decode cX6_apply 29 = .ok (.lstore 4, 2) := by decide +kernel
theorem dX6_apply_31 : decode cX6_apply 31 = .ok (.aload_n 1, 1) := by decide +kernel
theorem dX6_apply_32 : decode cX6_apply 32 = .ok (.getfield 50, 3) := by decide +kernel
theorem dX6_apply_35 : decode cX6_apply 35 = .ok (.bipush 15, 2) := by decide +kernel
theorem dX6_apply_37 : decode cX6_apply 37 = .ok (.iload_n 3, 1) := by decide +kernel
theorem dX6_apply_38 : decode cX6_apply 38 = .ok (.iadd, 1) := by decide +kernel
theorem dX6_apply_39 : decode cX6_apply 39 = .ok (.lload 4, 2) := by decide +kernel
theorem dX6_apply_41 : decode cX6_apply 41 = .ok (.lastore, 1) := by decide +kernel
theorem dX6_apply_42 : decode cX6_apply 42 = .ok (.aload_n 0, 1) := by decide +kernel
theorem dX6_apply_43 : decode cX6_apply 43 = .ok (.getfield 23, 3) := by decide +kernel
theorem dX6_apply_46 : decode cX6_apply 46 = .ok (.iload_n 3, 1) := by decide +kernel
theorem dX6_apply_47 : decode cX6_apply 47 = .ok (.iaload, 1) := by decide +kernel
theorem dX6_apply_48 : decode cX6_apply 48 = .ok (.iconst 1, 1) := by decide +kernel
theorem dX6_apply_49 : decode cX6_apply 49 = .ok (.if_icmp .ne 15, 3) := by decide +kernel
theorem dX6_apply_52 : decode cX6_apply 52 = .ok (.lload 4, 2) := by decide +kernel
theorem dX6_apply_54 : decode cX6_apply 54 = .ok (.lconst 1, 1) := by decide +kernel
theorem dX6_apply_55 : decode cX6_apply 55 = .ok (.lcmp, 1) := by decide +kernel
theorem dX6_apply_56 : decode cX6_apply 56 = .ok (.ifCond .ne 8, 3) := by decide +kernel
theorem dX6_apply_59 : decode cX6_apply 59 = .ok (.aload_n 1, 1) := by decide +kernel
theorem dX6_apply_60 : decode cX6_apply 60 = .ok (.iconst 1, 1) := by decide +kernel
theorem dX6_apply_61 : decode cX6_apply 61 = .ok (.putfield 40, 3) := by decide +kernel
theorem dX6_apply_64 : decode cX6_apply 64 = .ok (.aload_n 0, 1) := by decide +kernel
theorem dX6_apply_65 : decode cX6_apply 65 = .ok (.getfield 20, 3) := by decide +kernel
theorem dX6_apply_68 : decode cX6_apply 68 = .ok (.iload_n 3, 1) := by decide +kernel
theorem dX6_apply_69 : decode cX6_apply 69 = .ok (.iaload, 1) := by decide +kernel
theorem dX6_apply_70 : decode cX6_apply 70 = .ok (.istore_n 2, 1) := by decide +kernel
theorem dX6_apply_71 : decode cX6_apply 71 = .ok (.iinc 3 1, 3) := by decide +kernel
theorem dX6_apply_74 : decode cX6_apply 74 = .ok (.goto (-65), 3) := by decide +kernel
theorem dX6_apply_77 : decode cX6_apply 77 = .ok (.aload_n 1, 1) := by decide +kernel
theorem dX6_apply_78 : decode cX6_apply 78 = .ok (.aload_n 1, 1) := by decide +kernel
theorem dX6_apply_79 : decode cX6_apply 79 = .ok (.aload_n 0, 1) := by decide +kernel
theorem dX6_apply_80 : decode cX6_apply 80 = .ok (.getfield 30, 3) := by decide +kernel
theorem dX6_apply_83 : decode cX6_apply 83 = .ok (.invokevirtual 53, 3) := by decide +kernel
theorem dX6_apply_86 : decode cX6_apply 86 = .ok (.putfield 57, 3) := by decide +kernel
theorem dX6_apply_89 : decode cX6_apply 89 = .ok (.return_, 1) := by decide +kernel
theorem dX6_compare_0 : decode cX6_compare 0 = .ok (.aload_n 1, 1) := by decide +kernel
theorem dX6_compare_1 : decode cX6_compare 1 = .ok (.getfield 57, 3) := by decide +kernel
theorem dX6_compare_4 : decode cX6_compare 4 = .ok (.aload_n 2, 1) := by decide +kernel
theorem dX6_compare_5 : decode cX6_compare 5 = .ok (.getfield 57, 3) := by decide +kernel
theorem dX6_compare_8 : decode cX6_compare 8 = .ok (.invokestatic 61, 3) := by decide +kernel
theorem dX6_compare_11 : decode cX6_compare 11 = .ok (.istore_n 3, 1) := by decide +kernel
theorem dX6_compare_12 : decode cX6_compare 12 = .ok (.iconst 0, 1) := by decide +kernel
theorem dX6_compare_13 : decode cX6_compare 13 = .ok (.istore 4, 2) := by decide +kernel
theorem dX6_compare_15 : decode cX6_compare 15 = .ok (.iload 4, 2) := by decide +kernel
theorem dX6_compare_17 : decode cX6_compare 17 = .ok (.aload_n 0, 1) := by decide +kernel
theorem dX6_compare_18 : decode cX6_compare 18 = .ok (.getfield 37, 3) := by decide +kernel
theorem dX6_compare_21 : decode cX6_compare 21 = .ok (.if_icmp .ge 48, 3) := by decide +kernel
theorem dX6_compare_24 : decode cX6_compare 24 = .ok (.iload_n 3, 1) := by decide +kernel
theorem dX6_compare_25 : decode cX6_compare 25 = .ok (.ifCond .ne 44, 3) := by decide +kernel
theorem dX6_compare_28 : decode cX6_compare 28 = .ok (.aload_n 0, 1) := by decide +kernel
theorem dX6_compare_29 : decode cX6_compare 29 = .ok (.getfield 23, 3) := by decide +kernel
theorem dX6_compare_32 : decode cX6_compare 32 = .ok (.iload 4, 2) := by decide +kernel
theorem dX6_compare_34 : decode cX6_compare 34 = .ok (.iaload, 1) := by decide +kernel
theorem dX6_compare_35 : decode cX6_compare 35 = .ok (.iconst 2, 1) := by decide +kernel
theorem dX6_compare_36 : decode cX6_compare 36 = .ok (.if_icmp .ne 27, 3) := by decide +kernel
theorem dX6_compare_39 : decode cX6_compare 39 = .ok (.aload_n 1, 1) := by decide +kernel
theorem dX6_compare_40 : decode cX6_compare 40 = .ok (.getfield 50, 3) := by decide +kernel
theorem dX6_compare_43 : decode cX6_compare 43 = .ok (.bipush 15, 2) := by decide +kernel
theorem dX6_compare_45 : decode cX6_compare 45 = .ok (.iload 4, 2) := by decide +kernel
theorem dX6_compare_47 : decode cX6_compare 47 = .ok (.iadd, 1) := by decide +kernel
theorem dX6_compare_48 : decode cX6_compare 48 = .ok (.laload, 1) := by decide +kernel
theorem dX6_compare_49 : decode cX6_compare 49 = .ok (.aload_n 2, 1) := by decide +kernel
theorem dX6_compare_50 : decode cX6_compare 50 = .ok (.getfield 50, 3) := by decide +kernel
theorem dX6_compare_53 : decode cX6_compare 53 = .ok (.bipush 15, 2) := by decide +kernel
theorem dX6_compare_55 : decode cX6_compare 55 = .ok (.iload 4, 2) := by decide +kernel
theorem dX6_compare_57 : decode cX6_compare 57 = .ok (.iadd, 1) := by decide +kernel
theorem dX6_compare_58 : decode cX6_compare 58 = .ok (.laload, 1) := by decide +kernel
theorem dX6_compare_59 : decode cX6_compare 59 = .ok (.invokestatic 61, 3) := by decide +kernel
theorem dX6_compare_62 : decode cX6_compare 62 = .ok (.istore_n 3, 1) := by decide +kernel
theorem dX6_compare_63 : decode cX6_compare 63 = .ok (.iinc 4 1, 3) := by decide +kernel
theorem dX6_compare_66 : decode cX6_compare 66 = .ok (.goto (-51), 3) := by decide +kernel
theorem dX6_compare_69 : decode cX6_compare 69 = .ok (.iload_n 3, 1) := by decide +kernel
theorem dX6_compare_70 : decode cX6_compare 70 = .ok (.ireturn, 1) := by decide +kernel
theorem dX6_orderOf_0 : decode cX6_orderOf 0 = .ok (.lload_n 0, 1) := by decide +kernel
theorem dX6_orderOf_1 : decode cX6_orderOf 1 = .ok (.lload_n 2, 1) := by decide +kernel
theorem dX6_orderOf_2 : decode cX6_orderOf 2 = .ok (.lcmp, 1) := by decide +kernel
theorem dX6_orderOf_3 : decode cX6_orderOf 3 = .ok (.ifCond .ne 5, 3) := by decide +kernel
theorem dX6_orderOf_6 : decode cX6_orderOf 6 = .ok (.iconst 0, 1) := by decide +kernel
theorem dX6_orderOf_7 : decode cX6_orderOf 7 = .ok (.ireturn, 1) := by decide +kernel
theorem dX6_orderOf_8 : decode cX6_orderOf 8 = .ok (.lload_n 0, 1) := by decide +kernel
theorem dX6_orderOf_9 : decode cX6_orderOf 9 = .ok (.lload_n 2, 1) := by decide +kernel
theorem dX6_orderOf_10 : decode cX6_orderOf 10 = .ok (.lcmp, 1) := by decide +kernel
theorem dX6_orderOf_11 : decode cX6_orderOf 11 = .ok (.ifCond .ge 7, 3) := by decide +kernel
theorem dX6_orderOf_14 : decode cX6_orderOf 14 = .ok (.iconst (-1), 1) := by decide +kernel
theorem dX6_orderOf_15 : decode cX6_orderOf 15 = .ok (.goto 4, 3) := by decide +kernel
theorem dX6_orderOf_18 : decode cX6_orderOf 18 = .ok (.iconst 1, 1) := by decide +kernel
theorem dX6_orderOf_19 : decode cX6_orderOf 19 = .ok (.ireturn, 1) := by decide +kernel
theorem dX6_run_0 : decode cX6_run 0 = .ok (.aload_n 0, 1) := by decide +kernel
theorem dX6_run_1 : decode cX6_run 1 = .ok (.iconst 0, 1) := by decide +kernel
theorem dX6_run_2 : decode cX6_run 2 = .ok (.putfield 65, 3) := by decide +kernel
theorem dX6_run_5 : decode cX6_run 5 = .ok (.iload_n 1, 1) := by decide +kernel
theorem dX6_run_6 : decode cX6_run 6 = .ok (.istore 4, 2) := by decide +kernel
theorem dX6_run_8 : decode cX6_run 8 = .ok (.iload 4, 2) := by decide +kernel
theorem dX6_run_10 : decode cX6_run 10 = .ok (.iload_n 2, 1) := by decide +kernel
theorem dX6_run_11 : decode cX6_run 11 = .ok (.if_icmp .ge 28, 3) := by decide +kernel
theorem dX6_run_14 : decode cX6_run 14 = .ok (.aload_n 0, 1) := by decide +kernel
theorem dX6_run_15 : decode cX6_run 15 = .ok (.aload_n 0, 1) := by decide +kernel
theorem dX6_run_16 : decode cX6_run 16 = .ok (.getfield 11, 3) := by decide +kernel
theorem dX6_run_19 : decode cX6_run 19 = .ok (.iload 4, 2) := by decide +kernel
theorem dX6_run_21 : decode cX6_run 21 = .ok (.iaload, 1) := by decide +kernel
theorem dX6_run_22 : decode cX6_run 22 = .ok (.aload_n 0, 1) := by decide +kernel
theorem dX6_run_23 : decode cX6_run 23 = .ok (.getfield 17, 3) := by decide +kernel
theorem dX6_run_26 : decode cX6_run 26 = .ok (.iload 4, 2) := by decide +kernel
theorem dX6_run_28 : decode cX6_run 28 = .ok (.iaload, 1) := by decide +kernel
theorem dX6_run_29 : decode cX6_run 29 = .ok (.aload_n 3, 1) := by decide +kernel
theorem dX6_run_30 : decode cX6_run 30 = .ok (.invokevirtual 68, 3) := by decide +kernel
theorem dX6_run_33 : decode cX6_run 33 = .ok (.iinc 4 1, 3) := by decide +kernel
theorem dX6_run_36 : decode cX6_run 36 = .ok (.goto (-28), 3) := by decide +kernel
theorem dX6_run_39 : decode cX6_run 39 = .ok (.aload_n 0, 1) := by decide +kernel
theorem dX6_run_40 : decode cX6_run 40 = .ok (.invokevirtual 72, 3) := by decide +kernel
theorem dX6_run_43 : decode cX6_run 43 = .ok (.lreturn, 1) := by decide +kernel
theorem dX6_doStep_0 : decode cX6_doStep 0 = .ok (.iload_n 1, 1) := by decide +kernel
theorem dX6_doStep_1 : decode cX6_doStep 1 = .ok (.ifCond .ne 12, 3) := by decide +kernel
theorem dX6_doStep_4 : decode cX6_doStep 4 = .ok (.aload_n 0, 1) := by decide +kernel
theorem dX6_doStep_5 : decode cX6_doStep 5 = .ok (.iload_n 2, 1) := by decide +kernel
theorem dX6_doStep_6 : decode cX6_doStep 6 = .ok (.i2l, 1) := by decide +kernel
theorem dX6_doStep_7 : decode cX6_doStep 7 = .ok (.invokevirtual 76, 3) := by decide +kernel
theorem dX6_doStep_10 : decode cX6_doStep 10 = .ok (.goto 74, 3) := by decide +kernel
theorem dX6_doStep_13 : decode cX6_doStep 13 = .ok (.iload_n 1, 1) := by decide +kernel
theorem dX6_doStep_14 : decode cX6_doStep 14 = .ok (.iconst 1, 1) := by decide +kernel
theorem dX6_doStep_15 : decode cX6_doStep 15 = .ok (.if_icmp .ne 15, 3) := by decide +kernel
theorem dX6_doStep_18 : decode cX6_doStep 18 = .ok (.aload_n 0, 1) := by decide +kernel
theorem dX6_doStep_19 : decode cX6_doStep 19 = .ok (.aload_n 3, 1) := by decide +kernel
theorem dX6_doStep_20 : decode cX6_doStep 20 = .ok (.iload_n 2, 1) := by decide +kernel
theorem dX6_doStep_21 : decode cX6_doStep 21 = .ok (.invokevirtual 53, 3) := by decide +kernel
theorem dX6_doStep_24 : decode cX6_doStep 24 = .ok (.invokevirtual 76, 3) := by decide +kernel
theorem dX6_doStep_27 : decode cX6_doStep 27 = .ok (.goto 57, 3) := by decide +kernel
theorem dX6_doStep_30 : decode cX6_doStep 30 = .ok (.iload_n 1, 1) := by decide +kernel
theorem dX6_doStep_31 : decode cX6_doStep 31 = .ok (.iconst 5, 1) := by decide +kernel
theorem dX6_doStep_32 : decode cX6_doStep 32 = .ok (.if_icmp .ne 28, 3) := by decide +kernel
theorem dX6_doStep_35 : decode cX6_doStep 35 = .ok (.aload_n 0, 1) := by decide +kernel
theorem dX6_doStep_36 : decode cX6_doStep 36 = .ok (.iload_n 2, 1) := by decide +kernel
theorem dX6_doStep_37 : decode cX6_doStep 37 = .ok (.iconst 1, 1) := by decide +kernel
theorem dX6_doStep_38 : decode cX6_doStep 38 = .ok (.if_icmp .ge 7, 3) := by decide +kernel
theorem dX6_doStep_41 : decode cX6_doStep 41 = .ok (.lconst 0, 1) := by decide +kernel
theorem dX6_doStep_42 : decode cX6_doStep 42 = .ok (.goto 12, 3) := by decide +kernel
theorem dX6_doStep_45 : decode cX6_doStep 45 = .ok (.aload_n 0, 1) := by decide +kernel
theorem dX6_doStep_46 : decode cX6_doStep 46 = .ok (.invokevirtual 72, 3) := by decide +kernel
theorem dX6_doStep_49 : decode cX6_doStep 49 = .ok (.iload_n 2, 1) := by decide +kernel
theorem dX6_doStep_50 : decode cX6_doStep 50 = .ok (.i2l, 1) := by decide +kernel
theorem dX6_doStep_51 : decode cX6_doStep 51 = .ok (.invokestatic 80, 3) := by decide +kernel
theorem dX6_doStep_54 : decode cX6_doStep 54 = .ok (.invokevirtual 76, 3) := by decide +kernel
theorem dX6_doStep_57 : decode cX6_doStep 57 = .ok (.goto 27, 3) := by decide +kernel
theorem dX6_doStep_60 : decode cX6_doStep 60 = .ok (.aload_n 0, 1) := by decide +kernel
theorem dX6_doStep_61 : decode cX6_doStep 61 = .ok (.invokevirtual 72, 3) := by decide +kernel
theorem dX6_doStep_64 : decode cX6_doStep 64 = .ok (.lstore 4, 2) := by decide +kernel
theorem dX6_doStep_66 : decode cX6_doStep 66 = .ok (.aload_n 0, 1) := by decide +kernel
theorem dX6_doStep_67 : decode cX6_doStep 67 = .ok (.invokevirtual 72, 3) := by decide +kernel
theorem dX6_doStep_70 : decode cX6_doStep 70 = .ok (.lstore 6, 2) := by decide +kernel
theorem dX6_doStep_72 : decode cX6_doStep 72 = .ok (.aload_n 0, 1) := by decide +kernel
theorem dX6_doStep_73 : decode cX6_doStep 73 = .ok (.iload_n 1, 1) := by decide +kernel
theorem dX6_doStep_74 : decode cX6_doStep 74 = .ok (.lload 6, 2) := by decide +kernel
theorem dX6_doStep_76 : decode cX6_doStep 76 = .ok (.lload 4, 2) := by decide +kernel
theorem dX6_doStep_78 : decode cX6_doStep 78 = .ok (.invokestatic 86, 3) := by decide +kernel
theorem dX6_doStep_81 : decode cX6_doStep 81 = .ok (.invokevirtual 76, 3) := by decide +kernel
theorem dX6_doStep_84 : decode cX6_doStep 84 = .ok (.return_, 1) := by decide +kernel
theorem dX6_push_0 : decode cX6_push 0 = .ok (.aload_n 0, 1) := by decide +kernel
theorem dX6_push_1 : decode cX6_push 1 = .ok (.getfield 65, 3) := by decide +kernel
theorem dX6_push_4 : decode cX6_push 4 = .ok (.bipush 32, 2) := by decide +kernel
theorem dX6_push_6 : decode cX6_push 6 = .ok (.if_icmp .ge 23, 3) := by decide +kernel
theorem dX6_push_9 : decode cX6_push 9 = .ok (.aload_n 0, 1) := by decide +kernel
theorem dX6_push_10 : decode cX6_push 10 = .ok (.getfield 26, 3) := by decide +kernel
theorem dX6_push_13 : decode cX6_push 13 = .ok (.aload_n 0, 1) := by decide +kernel
theorem dX6_push_14 : decode cX6_push 14 = .ok (.getfield 65, 3) := by decide +kernel
theorem dX6_push_17 : decode cX6_push 17 = .ok (.lload_n 1, 1) := by decide +kernel
theorem dX6_push_18 : decode cX6_push 18 = .ok (.lastore, 1) := by decide +kernel
theorem dX6_push_19 : decode cX6_push 19 = .ok (.aload_n 0, 1) := by decide +kernel
theorem dX6_push_20 : decode cX6_push 20 = .ok (.dup, 1) := by decide +kernel
theorem dX6_push_21 : decode cX6_push 21 = .ok (.getfield 65, 3) := by decide +kernel
theorem dX6_push_24 : decode cX6_push 24 = .ok (.iconst 1, 1) := by decide +kernel
theorem dX6_push_25 : decode cX6_push 25 = .ok (.iadd, 1) := by decide +kernel
theorem dX6_push_26 : decode cX6_push 26 = .ok (.putfield 65, 3) := by decide +kernel
theorem dX6_push_29 : decode cX6_push 29 = .ok (.return_, 1) := by decide +kernel
theorem dX6_pop_0 : decode cX6_pop 0 = .ok (.aload_n 0, 1) := by decide +kernel
theorem dX6_pop_1 : decode cX6_pop 1 = .ok (.getfield 65, 3) := by decide +kernel
theorem dX6_pop_4 : decode cX6_pop 4 = .ok (.iconst 1, 1) := by decide +kernel
theorem dX6_pop_5 : decode cX6_pop 5 = .ok (.if_icmp .ge 5, 3) := by decide +kernel
theorem dX6_pop_8 : decode cX6_pop 8 = .ok (.lconst 0, 1) := by decide +kernel
theorem dX6_pop_9 : decode cX6_pop 9 = .ok (.lreturn, 1) := by decide +kernel
theorem dX6_pop_10 : decode cX6_pop 10 = .ok (.aload_n 0, 1) := by decide +kernel
theorem dX6_pop_11 : decode cX6_pop 11 = .ok (.dup, 1) := by decide +kernel
theorem dX6_pop_12 : decode cX6_pop 12 = .ok (.getfield 65, 3) := by decide +kernel
theorem dX6_pop_15 : decode cX6_pop 15 = .ok (.iconst 1, 1) := by decide +kernel
theorem dX6_pop_16 : decode cX6_pop 16 = .ok (.isub, 1) := by decide +kernel
theorem dX6_pop_17 : decode cX6_pop 17 = .ok (.putfield 65, 3) := by decide +kernel
theorem dX6_pop_20 : decode cX6_pop 20 = .ok (.aload_n 0, 1) := by decide +kernel
theorem dX6_pop_21 : decode cX6_pop 21 = .ok (.getfield 26, 3) := by decide +kernel
theorem dX6_pop_24 : decode cX6_pop 24 = .ok (.aload_n 0, 1) := by decide +kernel
theorem dX6_pop_25 : decode cX6_pop 25 = .ok (.getfield 65, 3) := by decide +kernel
theorem dX6_pop_28 : decode cX6_pop 28 = .ok (.laload, 1) := by decide +kernel
theorem dX6_pop_29 : decode cX6_pop 29 = .ok (.lreturn, 1) := by decide +kernel
theorem dX6_join_0 : decode cX6_join 0 = .ok (.iload_n 0, 1) := by decide +kernel
theorem dX6_join_1 : decode cX6_join 1 = .ok (.tableswitch 103 2 9 #[47, 54, 61, 103, 67, 73, 79, 91], 47) := by decide +kernel
theorem dX6_join_48 : decode cX6_join 48 = .ok (.lload_n 1, 1) := by decide +kernel
theorem dX6_join_49 : decode cX6_join 49 = .ok (.lload_n 3, 1) := by decide +kernel
theorem dX6_join_50 : decode cX6_join 50 = .ok (.ladd, 1) := by decide +kernel
theorem dX6_join_51 : decode cX6_join 51 = .ok (.invokestatic 90, 3) := by decide +kernel
theorem dX6_join_54 : decode cX6_join 54 = .ok (.lreturn, 1) := by decide +kernel
theorem dX6_join_55 : decode cX6_join 55 = .ok (.lload_n 1, 1) := by decide +kernel
theorem dX6_join_56 : decode cX6_join 56 = .ok (.lload_n 3, 1) := by decide +kernel
theorem dX6_join_57 : decode cX6_join 57 = .ok (.lsub, 1) := by decide +kernel
theorem dX6_join_58 : decode cX6_join 58 = .ok (.invokestatic 90, 3) := by decide +kernel
theorem dX6_join_61 : decode cX6_join 61 = .ok (.lreturn, 1) := by decide +kernel
theorem dX6_join_62 : decode cX6_join 62 = .ok (.lload_n 1, 1) := by decide +kernel
theorem dX6_join_63 : decode cX6_join 63 = .ok (.lload_n 3, 1) := by decide +kernel
theorem dX6_join_64 : decode cX6_join 64 = .ok (.invokestatic 94, 3) := by decide +kernel
theorem dX6_join_67 : decode cX6_join 67 = .ok (.lreturn, 1) := by decide +kernel
theorem dX6_join_68 : decode cX6_join 68 = .ok (.lload_n 1, 1) := by decide +kernel
theorem dX6_join_69 : decode cX6_join 69 = .ok (.lload_n 3, 1) := by decide +kernel
theorem dX6_join_70 : decode cX6_join 70 = .ok (.invokestatic 97, 3) := by decide +kernel
theorem dX6_join_73 : decode cX6_join 73 = .ok (.lreturn, 1) := by decide +kernel
theorem dX6_join_74 : decode cX6_join 74 = .ok (.lload_n 1, 1) := by decide +kernel
theorem dX6_join_75 : decode cX6_join 75 = .ok (.lload_n 3, 1) := by decide +kernel
theorem dX6_join_76 : decode cX6_join 76 = .ok (.invokestatic 100, 3) := by decide +kernel
theorem dX6_join_79 : decode cX6_join 79 = .ok (.lreturn, 1) := by decide +kernel
theorem dX6_join_80 : decode cX6_join 80 = .ok (.lload_n 1, 1) := by decide +kernel
theorem dX6_join_81 : decode cX6_join 81 = .ok (.lload_n 3, 1) := by decide +kernel
theorem dX6_join_82 : decode cX6_join 82 = .ok (.lcmp, 1) := by decide +kernel
theorem dX6_join_83 : decode cX6_join 83 = .ok (.ifCond .ge 7, 3) := by decide +kernel
theorem dX6_join_86 : decode cX6_join 86 = .ok (.lconst 1, 1) := by decide +kernel
theorem dX6_join_87 : decode cX6_join 87 = .ok (.goto 4, 3) := by decide +kernel
theorem dX6_join_90 : decode cX6_join 90 = .ok (.lconst 0, 1) := by decide +kernel
theorem dX6_join_91 : decode cX6_join 91 = .ok (.lreturn, 1) := by decide +kernel
theorem dX6_join_92 : decode cX6_join 92 = .ok (.lload_n 1, 1) := by decide +kernel
theorem dX6_join_93 : decode cX6_join 93 = .ok (.lload_n 3, 1) := by decide +kernel
theorem dX6_join_94 : decode cX6_join 94 = .ok (.lcmp, 1) := by decide +kernel
theorem dX6_join_95 : decode cX6_join 95 = .ok (.ifCond .le 7, 3) := by decide +kernel
theorem dX6_join_98 : decode cX6_join 98 = .ok (.lconst 1, 1) := by decide +kernel
theorem dX6_join_99 : decode cX6_join 99 = .ok (.goto 4, 3) := by decide +kernel
theorem dX6_join_102 : decode cX6_join 102 = .ok (.lconst 0, 1) := by decide +kernel
theorem dX6_join_103 : decode cX6_join 103 = .ok (.lreturn, 1) := by decide +kernel
theorem dX6_join_104 : decode cX6_join 104 = .ok (.lload_n 1, 1) := by decide +kernel
theorem dX6_join_105 : decode cX6_join 105 = .ok (.lload_n 3, 1) := by decide +kernel
theorem dX6_join_106 : decode cX6_join 106 = .ok (.lcmp, 1) := by decide +kernel
theorem dX6_join_107 : decode cX6_join 107 = .ok (.ifCond .ne 7, 3) := by decide +kernel
theorem dX6_join_110 : decode cX6_join 110 = .ok (.lconst 1, 1) := by decide +kernel
theorem dX6_join_111 : decode cX6_join 111 = .ok (.goto 4, 3) := by decide +kernel
theorem dX6_join_114 : decode cX6_join 114 = .ok (.lconst 0, 1) := by decide +kernel
theorem dX6_join_115 : decode cX6_join 115 = .ok (.lreturn, 1) := by decide +kernel
theorem dX6_limited_0 : decode cX6_limited 0 = .ok (.ldc2_w 103, 3) := by decide +kernel
theorem dX6_limited_3 : decode cX6_limited 3 = .ok (.ldc2_w 105, 3) := by decide +kernel
theorem dX6_limited_6 : decode cX6_limited 6 = .ok (.lload_n 0, 1) := by decide +kernel
theorem dX6_limited_7 : decode cX6_limited 7 = .ok (.invokestatic 100, 3) := by decide +kernel
theorem dX6_limited_10 : decode cX6_limited 10 = .ok (.invokestatic 97, 3) := by decide +kernel
theorem dX6_limited_13 : decode cX6_limited 13 = .ok (.lreturn, 1) := by decide +kernel
theorem dX6_product_0 : decode cX6_product 0 = .ok (.lload_n 0, 1) := by decide +kernel
theorem dX6_product_1 : decode cX6_product 1 = .ok (.lconst 0, 1) := by decide +kernel
theorem dX6_product_2 : decode cX6_product 2 = .ok (.lcmp, 1) := by decide +kernel
theorem dX6_product_3 : decode cX6_product 3 = .ok (.ifCond .eq 9, 3) := by decide +kernel
theorem dX6_product_6 : decode cX6_product 6 = .ok (.lload_n 2, 1) := by decide +kernel
theorem dX6_product_7 : decode cX6_product 7 = .ok (.lconst 0, 1) := by decide +kernel
theorem dX6_product_8 : decode cX6_product 8 = .ok (.lcmp, 1) := by decide +kernel
theorem dX6_product_9 : decode cX6_product 9 = .ok (.ifCond .ne 5, 3) := by decide +kernel
theorem dX6_product_12 : decode cX6_product 12 = .ok (.lconst 0, 1) := by decide +kernel
theorem dX6_product_13 : decode cX6_product 13 = .ok (.lreturn, 1) := by decide +kernel
theorem dX6_product_14 : decode cX6_product 14 = .ok (.lload_n 0, 1) := by decide +kernel
theorem dX6_product_15 : decode cX6_product 15 = .ok (.invokestatic 107, 3) := by decide +kernel
theorem dX6_product_18 : decode cX6_product 18 = .ok (.ldc2_w 105, 3) := by decide +kernel
theorem dX6_product_21 : decode cX6_product 21 = .ok (.lload_n 2, 1) := by decide +kernel
theorem dX6_product_22 : decode cX6_product 22 = .ok (.invokestatic 107, 3) := by decide +kernel
theorem dX6_product_25 : decode cX6_product 25 = .ok (.ldiv, 1) := by decide +kernel
theorem dX6_product_26 : decode cX6_product 26 = .ok (.lcmp, 1) := by decide +kernel
theorem dX6_product_27 : decode cX6_product 27 = .ok (.ifCond .le 38, 3) := by decide +kernel
theorem dX6_product_30 : decode cX6_product 30 = .ok (.lload_n 0, 1) := by decide +kernel
theorem dX6_product_31 : decode cX6_product 31 = .ok (.lconst 0, 1) := by decide +kernel
theorem dX6_product_32 : decode cX6_product 32 = .ok (.lcmp, 1) := by decide +kernel
theorem dX6_product_33 : decode cX6_product 33 = .ok (.ifCond .ge 7, 3) := by decide +kernel
theorem dX6_product_36 : decode cX6_product 36 = .ok (.iconst 1, 1) := by decide +kernel
theorem dX6_product_37 : decode cX6_product 37 = .ok (.goto 4, 3) := by decide +kernel
theorem dX6_product_40 : decode cX6_product 40 = .ok (.iconst 0, 1) := by decide +kernel
theorem dX6_product_41 : decode cX6_product 41 = .ok (.lload_n 2, 1) := by decide +kernel
theorem dX6_product_42 : decode cX6_product 42 = .ok (.lconst 0, 1) := by decide +kernel
theorem dX6_product_43 : decode cX6_product 43 = .ok (.lcmp, 1) := by decide +kernel
theorem dX6_product_44 : decode cX6_product 44 = .ok (.ifCond .ge 7, 3) := by decide +kernel
theorem dX6_product_47 : decode cX6_product 47 = .ok (.iconst 1, 1) := by decide +kernel
theorem dX6_product_48 : decode cX6_product 48 = .ok (.goto 4, 3) := by decide +kernel
theorem dX6_product_51 : decode cX6_product 51 = .ok (.iconst 0, 1) := by decide +kernel
theorem dX6_product_52 : decode cX6_product 52 = .ok (.if_icmp .ne 9, 3) := by decide +kernel
theorem dX6_product_55 : decode cX6_product 55 = .ok (.ldc2_w 105, 3) := by decide +kernel
theorem dX6_product_58 : decode cX6_product 58 = .ok (.goto 6, 3) := by decide +kernel
theorem dX6_product_61 : decode cX6_product 61 = .ok (.ldc2_w 103, 3) := by decide +kernel
theorem dX6_product_64 : decode cX6_product 64 = .ok (.lreturn, 1) := by decide +kernel
theorem dX6_product_65 : decode cX6_product 65 = .ok (.lload_n 0, 1) := by decide +kernel
theorem dX6_product_66 : decode cX6_product 66 = .ok (.lload_n 2, 1) := by decide +kernel
theorem dX6_product_67 : decode cX6_product 67 = .ok (.lmul, 1) := by decide +kernel
theorem dX6_product_68 : decode cX6_product 68 = .ok (.lreturn, 1) := by decide +kernel
theorem dX7_init_0 : decode cX7_init 0 = .ok (.aload_n 0, 1) := by decide +kernel
theorem dX7_init_1 : decode cX7_init 1 = .ok (.invokespecial 7, 3) := by decide +kernel
theorem dX7_init_4 : decode cX7_init 4 = .ok (.aload_n 0, 1) := by decide +kernel
theorem dX7_init_5 : decode cX7_init 5 = .ok (.bipush 39, 2) := by decide +kernel
theorem dX7_init_7 : decode cX7_init 7 = .ok (.newarray .long, 2) := by decide +kernel
theorem dX7_init_9 : decode cX7_init 9 = .ok (.putfield 13, 3) := by decide +kernel
theorem dX7_init_12 : decode cX7_init 12 = .ok (.aload_n 0, 1) := by decide +kernel
theorem dX7_init_13 : decode cX7_init 13 = .ok (.iconst 1, 1) := by decide +kernel
theorem dX7_init_14 : decode cX7_init 14 = .ok (.putfield 17, 3) := by decide +kernel
theorem dX7_init_17 : decode cX7_init 17 = .ok (.return_, 1) := by decide +kernel
theorem dX7_clear_0 : decode cX7_clear 0 = .ok (.iconst 0, 1) := by decide +kernel
theorem dX7_clear_1 : decode cX7_clear 1 = .ok (.istore_n 1, 1) := by decide +kernel
theorem dX7_clear_2 : decode cX7_clear 2 = .ok (.iload_n 1, 1) := by decide +kernel
theorem dX7_clear_3 : decode cX7_clear 3 = .ok (.bipush 39, 2) := by decide +kernel
theorem dX7_clear_5 : decode cX7_clear 5 = .ok (.if_icmp .ge 16, 3) := by decide +kernel
theorem dX7_clear_8 : decode cX7_clear 8 = .ok (.aload_n 0, 1) := by decide +kernel
theorem dX7_clear_9 : decode cX7_clear 9 = .ok (.getfield 13, 3) := by decide +kernel
theorem dX7_clear_12 : decode cX7_clear 12 = .ok (.iload_n 1, 1) := by decide +kernel
theorem dX7_clear_13 : decode cX7_clear 13 = .ok (.lconst 0, 1) := by decide +kernel
theorem dX7_clear_14 : decode cX7_clear 14 = .ok (.lastore, 1) := by decide +kernel
theorem dX7_clear_15 : decode cX7_clear 15 = .ok (.iinc 1 1, 3) := by decide +kernel
theorem dX7_clear_18 : decode cX7_clear 18 = .ok (.goto (-16), 3) := by decide +kernel
theorem dX7_clear_21 : decode cX7_clear 21 = .ok (.aload_n 0, 1) := by decide +kernel
theorem dX7_clear_22 : decode cX7_clear 22 = .ok (.iconst 0, 1) := by decide +kernel
theorem dX7_clear_23 : decode cX7_clear 23 = .ok (.putfield 21, 3) := by decide +kernel
theorem dX7_clear_26 : decode cX7_clear 26 = .ok (.aload_n 0, 1) := by decide +kernel
theorem dX7_clear_27 : decode cX7_clear 27 = .ok (.iconst 0, 1) := by decide +kernel
theorem dX7_clear_28 : decode cX7_clear 28 = .ok (.putfield 24, 3) := by decide +kernel
theorem dX7_clear_31 : decode cX7_clear 31 = .ok (.aload_n 0, 1) := by decide +kernel
theorem dX7_clear_32 : decode cX7_clear 32 = .ok (.ldc 27, 2) := by decide +kernel
theorem dX7_clear_34 : decode cX7_clear 34 = .ok (.putfield 28, 3) := by decide +kernel
theorem dX7_clear_37 : decode cX7_clear 37 = .ok (.aload_n 0, 1) := by decide +kernel
theorem dX7_clear_38 : decode cX7_clear 38 = .ok (.ldc 27, 2) := by decide +kernel
theorem dX7_clear_40 : decode cX7_clear 40 = .ok (.putfield 32, 3) := by decide +kernel
theorem dX7_clear_43 : decode cX7_clear 43 = .ok (.aload_n 0, 1) := by decide +kernel
theorem dX7_clear_44 : decode cX7_clear 44 = .ok (.iconst (-1), 1) := by decide +kernel
theorem dX7_clear_45 : decode cX7_clear 45 = .ok (.putfield 35, 3) := by decide +kernel
theorem dX7_clear_48 : decode cX7_clear 48 = .ok (.return_, 1) := by decide +kernel
theorem dX7_countOf_0 : decode cX7_countOf 0 = .ok (.iload_n 1, 1) := by decide +kernel
theorem dX7_countOf_1 : decode cX7_countOf 1 = .ok (.iconst 0, 1) := by decide +kernel
theorem dX7_countOf_2 : decode cX7_countOf 2 = .ok (.bipush 14, 2) := by decide +kernel
theorem dX7_countOf_4 : decode cX7_countOf 4 = .ok (.invokestatic 38, 3) := by decide +kernel
theorem dX7_countOf_7 : decode cX7_countOf 7 = .ok (.ifCond .eq 11, 3) := by decide +kernel
theorem dX7_countOf_10 : decode cX7_countOf 10 = .ok (.aload_n 0, 1) := by decide +kernel
theorem dX7_countOf_11 : decode cX7_countOf 11 = .ok (.getfield 13, 3) := by decide +kernel
theorem dX7_countOf_14 : decode cX7_countOf 14 = .ok (.iload_n 1, 1) := by decide +kernel
theorem dX7_countOf_15 : decode cX7_countOf 15 = .ok (.laload, 1) := by decide +kernel
theorem dX7_countOf_16 : decode cX7_countOf 16 = .ok (.l2i, 1) := by decide +kernel
theorem dX7_countOf_17 : decode cX7_countOf 17 = .ok (.ireturn, 1) := by decide +kernel
theorem dX7_countOf_18 : decode cX7_countOf 18 = .ok (.iload_n 1, 1) := by decide +kernel
theorem dX7_countOf_19 : decode cX7_countOf 19 = .ok (.tableswitch 40 15 17 #[25, 30, 35], 25) := by decide +kernel
theorem dX7_countOf_44 : decode cX7_countOf 44 = .ok (.aload_n 0, 1) := by decide +kernel
theorem dX7_countOf_45 : decode cX7_countOf 45 = .ok (.getfield 28, 3) := by decide +kernel
theorem dX7_countOf_48 : decode cX7_countOf 48 = .ok (.ireturn, 1) := by decide +kernel
theorem dX7_countOf_49 : decode cX7_countOf 49 = .ok (.aload_n 0, 1) := by decide +kernel
theorem dX7_countOf_50 : decode cX7_countOf 50 = .ok (.getfield 32, 3) := by decide +kernel
theorem dX7_countOf_53 : decode cX7_countOf 53 = .ok (.ireturn, 1) := by decide +kernel
theorem dX7_countOf_54 : decode cX7_countOf 54 = .ok (.aload_n 0, 1) := by decide +kernel
theorem dX7_countOf_55 : decode cX7_countOf 55 = .ok (.getfield 35, 3) := by decide +kernel
theorem dX7_countOf_58 : decode cX7_countOf 58 = .ok (.ireturn, 1) := by decide +kernel
theorem dX7_countOf_59 : decode cX7_countOf 59 = .ok (.ldc 42, 2) := by decide +kernel
theorem dX7_countOf_61 : decode cX7_countOf 61 = .ok (.ireturn, 1) := by decide +kernel
theorem dX7_valueAt_0 : decode cX7_valueAt 0 = .ok (.iload_n 1, 1) := by decide +kernel
theorem dX7_valueAt_1 : decode cX7_valueAt 1 = .ok (.iconst 0, 1) := by decide +kernel
theorem dX7_valueAt_2 : decode cX7_valueAt 2 = .ok (.bipush 38, 2) := by decide +kernel
theorem dX7_valueAt_4 : decode cX7_valueAt 4 = .ok (.invokestatic 38, 3) := by decide +kernel
theorem dX7_valueAt_7 : decode cX7_valueAt 7 = .ok (.ifCond .eq 12, 3) := by decide +kernel
theorem dX7_valueAt_10 : decode cX7_valueAt 10 = .ok (.aload_n 0, 1) := by decide +kernel
theorem dX7_valueAt_11 : decode cX7_valueAt 11 = .ok (.getfield 13, 3) := by decide +kernel
theorem dX7_valueAt_14 : decode cX7_valueAt 14 = .ok (.iload_n 1, 1) := by decide +kernel
theorem dX7_valueAt_15 : decode cX7_valueAt 15 = .ok (.laload, 1) := by decide +kernel
theorem dX7_valueAt_16 : decode cX7_valueAt 16 = .ok (.goto 4, 3) := by decide +kernel
theorem dX7_valueAt_19 : decode cX7_valueAt 19 = .ok (.lconst 0, 1) := by decide +kernel
theorem dX7_valueAt_20 : decode cX7_valueAt 20 = .ok (.lreturn, 1) := by decide +kernel
theorem dX8_init_0 : decode cX8_init 0 = .ok (.aload_n 0, 1) := by decide +kernel
theorem dX8_init_1 : decode cX8_init 1 = .ok (.invokespecial 3, 3) := by decide +kernel
theorem dX8_init_4 : decode cX8_init 4 = .ok (.aload_n 0, 1) := by decide +kernel
theorem dX8_init_5 : decode cX8_init 5 = .ok (.bipush 120, 2) := by decide +kernel
theorem dX8_init_7 : decode cX8_init 7 = .ok (.newarray .int, 2) := by decide +kernel
theorem dX8_init_9 : decode cX8_init 9 = .ok (.putfield 13, 3) := by decide +kernel
theorem dX8_init_12 : decode cX8_init 12 = .ok (.aload_n 0, 1) := by decide +kernel
theorem dX8_init_13 : decode cX8_init 13 = .ok (.aload_n 1, 1) := by decide +kernel
theorem dX8_init_14 : decode cX8_init 14 = .ok (.putfield 17, 3) := by decide +kernel
theorem dX8_init_17 : decode cX8_init 17 = .ok (.aload_n 0, 1) := by decide +kernel
theorem dX8_init_18 : decode cX8_init 18 = .ok (.aload_n 2, 1) := by decide +kernel
theorem dX8_init_19 : decode cX8_init 19 = .ok (.putfield 21, 3) := by decide +kernel
theorem dX8_init_22 : decode cX8_init 22 = .ok (.return_, 1) := by decide +kernel
theorem dX8_fill_0 : decode cX8_fill 0 = .ok (.aload_n 1, 1) := by decide +kernel
theorem dX8_fill_1 : decode cX8_fill 1 = .ok (.invokevirtual 25, 3) := by decide +kernel
theorem dX8_fill_4 : decode cX8_fill 4 = .ok (.aload_n 0, 1) := by decide +kernel
theorem dX8_fill_5 : decode cX8_fill 5 = .ok (.iconst 0, 1) := by decide +kernel
theorem dX8_fill_6 : decode cX8_fill 6 = .ok (.putfield 30, 3) := by decide +kernel
theorem dX8_fill_9 : decode cX8_fill 9 = .ok (.iconst 0, 1) := by decide +kernel
theorem dX8_fill_10 : decode cX8_fill 10 = .ok (.istore 4, 2) := by decide +kernel
theorem dX8_fill_12 : decode cX8_fill 12 = .ok (.iload 4, 2) := by decide +kernel
theorem dX8_fill_14 : decode cX8_fill 14 = .ok (.aload_n 0, 1) := by decide +kernel
theorem dX8_fill_15 : decode cX8_fill 15 = .ok (.getfield 13, 3) := by decide +kernel
theorem dX8_fill_18 : decode cX8_fill 18 = .ok (.arraylength, 1) := by decide +kernel
theorem dX8_fill_19 : decode cX8_fill 19 = .ok (.if_icmp .ge 17, 3) := by decide +kernel
theorem dX8_fill_22 : decode cX8_fill 22 = .ok (.aload_n 0, 1) := by decide +kernel
theorem dX8_fill_23 : decode cX8_fill 23 = .ok (.getfield 13, 3) := by decide +kernel
theorem dX8_fill_26 : decode cX8_fill 26 = .ok (.iload 4, 2) := by decide +kernel
theorem dX8_fill_28 : decode cX8_fill 28 = .ok (.iconst 0, 1) := by decide +kernel
theorem dX8_fill_29 : decode cX8_fill 29 = .ok (.iastore, 1) := by decide +kernel
theorem dX8_fill_30 : decode cX8_fill 30 = .ok (.iinc 4 1, 3) := by decide +kernel
theorem dX8_fill_33 : decode cX8_fill 33 = .ok (.goto (-21), 3) := by decide +kernel
theorem dX8_fill_36 : decode cX8_fill 36 = .ok (.aload_n 0, 1) := by decide +kernel
theorem dX8_fill_37 : decode cX8_fill 37 = .ok (.getfield 21, 3) := by decide +kernel
theorem dX8_fill_40 : decode cX8_fill 40 = .ok (.iload_n 2, 1) := by decide +kernel
theorem dX8_fill_41 : decode cX8_fill 41 = .ok (.invokevirtual 34, 3) := by decide +kernel
theorem dX8_fill_44 : decode cX8_fill 44 = .ok (.astore 4, 2) := by decide +kernel
theorem dX8_fill_46 : decode cX8_fill 46 = .ok (.aload 4, 2) := by decide +kernel
theorem dX8_fill_48 : decode cX8_fill 48 = .ok (.ifnull 29, 3) := by decide +kernel
theorem dX8_fill_51 : decode cX8_fill 51 = .ok (.aload 4, 2) := by decide +kernel
theorem dX8_fill_53 : decode cX8_fill 53 = .ok (.iload_n 3, 1) := by decide +kernel
theorem dX8_fill_54 : decode cX8_fill 54 = .ok (.invokevirtual 40, 3) := by decide +kernel
theorem dX8_fill_57 : decode cX8_fill 57 = .ok (.ifCond .eq 10, 3) := by decide +kernel
theorem dX8_fill_60 : decode cX8_fill 60 = .ok (.aload_n 0, 1) := by decide +kernel
theorem dX8_fill_61 : decode cX8_fill 61 = .ok (.aload 4, 2) := by decide +kernel
theorem dX8_fill_63 : decode cX8_fill 63 = .ok (.aload_n 1, 1) := by decide +kernel
theorem dX8_fill_64 : decode cX8_fill 64 = .ok (.invokevirtual 46, 3) := by decide +kernel
theorem dX8_fill_67 : decode cX8_fill 67 = .ok (.aload 4, 2) := by decide +kernel
theorem dX8_fill_69 : decode cX8_fill 69 = .ok (.getfield 50, 3) := by decide +kernel
theorem dX8_fill_72 : decode cX8_fill 72 = .ok (.astore 4, 2) := by decide +kernel
theorem dX8_fill_74 : decode cX8_fill 74 = .ok (.goto (-28), 3) := by decide +kernel
theorem dX8_fill_77 : decode cX8_fill 77 = .ok (.aload_n 0, 1) := by decide +kernel
theorem dX8_fill_78 : decode cX8_fill 78 = .ok (.aload_n 1, 1) := by decide +kernel
theorem dX8_fill_79 : decode cX8_fill 79 = .ok (.invokevirtual 54, 3) := by decide +kernel
theorem dX8_fill_82 : decode cX8_fill 82 = .ok (.iconst 0, 1) := by decide +kernel
theorem dX8_fill_83 : decode cX8_fill 83 = .ok (.istore 4, 2) := by decide +kernel
theorem dX8_fill_85 : decode cX8_fill 85 = .ok (.iload 4, 2) := by decide +kernel
theorem dX8_fill_87 : decode cX8_fill 87 = .ok (.aload_n 0, 1) := by decide +kernel
theorem dX8_fill_88 : decode cX8_fill 88 = .ok (.getfield 17, 3) := by decide +kernel
theorem dX8_fill_91 : decode cX8_fill 91 = .ok (.getfield 58, 3) := by decide +kernel
theorem dX8_fill_94 : decode cX8_fill 94 = .ok (.if_icmp .ge 32, 3) := by decide +kernel
theorem dX8_fill_97 : decode cX8_fill 97 = .ok (.aload_n 0, 1) := by decide +kernel
theorem dX8_fill_98 : decode cX8_fill 98 = .ok (.getfield 17, 3) := by decide +kernel
theorem dX8_fill_101 : decode cX8_fill 101 = .ok (.aload_n 1, 1) := by decide +kernel
theorem dX8_fill_102 : decode cX8_fill 102 = .ok (.iload 4, 2) := by decide +kernel
theorem dX8_fill_104 : decode cX8_fill 104 = .ok (.invokevirtual 61, 3) := by decide +kernel
theorem dX8_fill_107 : decode cX8_fill 107 = .ok (.ifCond .eq 13, 3) := by decide +kernel
theorem dX8_fill_110 : decode cX8_fill 110 = .ok (.aload_n 0, 1) := by decide +kernel
theorem dX8_fill_111 : decode cX8_fill 111 = .ok (.iload 4, 2) := by decide +kernel
theorem dX8_fill_113 : decode cX8_fill 113 = .ok (.aload_n 1, 1) := by decide +kernel
theorem dX8_fill_114 : decode cX8_fill 114 = .ok (.getfield 65, 3) := by decide +kernel
theorem dX8_fill_117 : decode cX8_fill 117 = .ok (.invokevirtual 69, 3) := by decide +kernel
theorem dX8_fill_120 : decode cX8_fill 120 = .ok (.iinc 4 1, 3) := by decide +kernel
theorem dX8_fill_123 : decode cX8_fill 123 = .ok (.goto (-38), 3) := by decide +kernel
theorem dX8_fill_126 : decode cX8_fill 126 = .ok (.return_, 1) := by decide +kernel
theorem dX8_take_0 : decode cX8_take 0 = .ok (.aload_n 1, 1) := by decide +kernel
theorem dX8_take_1 : decode cX8_take 1 = .ok (.getfield 73, 3) := by decide +kernel
theorem dX8_take_4 : decode cX8_take 4 = .ok (.tableswitch 203 0 11 #[64, 78, 102, 203, 203, 203, 203, 126, 147, 161, 175, 189], 64) := by decide +kernel
theorem dX8_take_68 : decode cX8_take 68 = .ok (.aload_n 2, 1) := by decide +kernel
theorem dX8_take_69 : decode cX8_take 69 = .ok (.getfield 65, 3) := by decide +kernel
theorem dX8_take_72 : decode cX8_take 72 = .ok (.iconst 0, 1) := by decide +kernel
theorem dX8_take_73 : decode cX8_take 73 = .ok (.aload_n 1, 1) := by decide +kernel
theorem dX8_take_74 : decode cX8_take 74 = .ok (.getfield 76, 3) := by decide +kernel
theorem dX8_take_77 : decode cX8_take 77 = .ok (.i2l, 1) := by decide +kernel
theorem dX8_take_78 : decode cX8_take 78 = .ok (.lastore, 1) := by decide +kernel
theorem dX8_take_79 : decode cX8_take 79 = .ok (.goto 140, 3) := by decide +kernel
theorem dX8_take_82 : decode cX8_take 82 = .ok (.aload_n 2, 1) := by decide +kernel
theorem dX8_take_83 : decode cX8_take 83 = .ok (.iconst 1, 1) := by decide +kernel
theorem dX8_take_84 : decode cX8_take 84 = .ok (.putfield 79, 3) := by decide +kernel
theorem dX8_take_87 : decode cX8_take 87 = .ok (.aload_n 2, 1) := by decide +kernel
theorem dX8_take_88 : decode cX8_take 88 = .ok (.aload_n 0, 1) := by decide +kernel
theorem dX8_take_89 : decode cX8_take 89 = .ok (.getfield 17, 3) := by decide +kernel
theorem dX8_take_92 : decode cX8_take 92 = .ok (.iconst 0, 1) := by decide +kernel
theorem dX8_take_93 : decode cX8_take 93 = .ok (.aload_n 1, 1) := by decide +kernel
theorem dX8_take_94 : decode cX8_take 94 = .ok (.getfield 76, 3) := by decide +kernel
theorem dX8_take_97 : decode cX8_take 97 = .ok (.invokevirtual 83, 3) := by decide +kernel
theorem dX8_take_100 : decode cX8_take 100 = .ok (.putfield 87, 3) := by decide +kernel
theorem dX8_take_103 : decode cX8_take 103 = .ok (.goto 116, 3) := by decide +kernel
theorem dX8_take_106 : decode cX8_take 106 = .ok (.aload_n 2, 1) := by decide +kernel
theorem dX8_take_107 : decode cX8_take 107 = .ok (.iconst 1, 1) := by decide +kernel
theorem dX8_take_108 : decode cX8_take 108 = .ok (.putfield 90, 3) := by decide +kernel
theorem dX8_take_111 : decode cX8_take 111 = .ok (.aload_n 2, 1) := by decide +kernel
theorem dX8_take_112 : decode cX8_take 112 = .ok (.aload_n 0, 1) := by decide +kernel
theorem dX8_take_113 : decode cX8_take 113 = .ok (.getfield 17, 3) := by decide +kernel
theorem dX8_take_116 : decode cX8_take 116 = .ok (.iconst 1, 1) := by decide +kernel
theorem dX8_take_117 : decode cX8_take 117 = .ok (.aload_n 1, 1) := by decide +kernel
theorem dX8_take_118 : decode cX8_take 118 = .ok (.getfield 76, 3) := by decide +kernel
theorem dX8_take_121 : decode cX8_take 121 = .ok (.invokevirtual 83, 3) := by decide +kernel
theorem dX8_take_124 : decode cX8_take 124 = .ok (.putfield 93, 3) := by decide +kernel
theorem dX8_take_127 : decode cX8_take 127 = .ok (.goto 92, 3) := by decide +kernel
theorem dX8_take_130 : decode cX8_take 130 = .ok (.aload_n 0, 1) := by decide +kernel
theorem dX8_take_131 : decode cX8_take 131 = .ok (.dup, 1) := by decide +kernel
theorem dX8_take_132 : decode cX8_take 132 = .ok (.getfield 30, 3) := by decide +kernel
theorem dX8_take_135 : decode cX8_take 135 = .ok (.aload_n 1, 1) := by decide +kernel
theorem dX8_take_136 : decode cX8_take 136 = .ok (.getfield 96, 3) := by decide +kernel
theorem dX8_take_139 : decode cX8_take 139 = .ok (.aload_n 1, 1) := by decide +kernel
theorem dX8_take_140 : decode cX8_take 140 = .ok (.getfield 76, 3) := by decide +kernel
theorem dX8_take_143 : decode cX8_take 143 = .ok (.isub, 1) := by decide +kernel
theorem dX8_take_144 : decode cX8_take 144 = .ok (.iadd, 1) := by decide +kernel
theorem dX8_take_145 : decode cX8_take 145 = .ok (.putfield 30, 3) := by decide +kernel
theorem dX8_take_148 : decode cX8_take 148 = .ok (.goto 71, 3) := by decide +kernel
theorem dX8_take_151 : decode cX8_take 151 = .ok (.aload_n 2, 1) := by decide +kernel
theorem dX8_take_152 : decode cX8_take 152 = .ok (.getfield 65, 3) := by decide +kernel
theorem dX8_take_155 : decode cX8_take 155 = .ok (.bipush 8, 2) := by decide +kernel
theorem dX8_take_157 : decode cX8_take 157 = .ok (.dup2, 1) := by decide +kernel
theorem dX8_take_158 : decode cX8_take 158 = .ok (.laload, 1) := by decide +kernel
theorem dX8_take_159 : decode cX8_take 159 = .ok (.lconst 1, 1) := by decide +kernel
theorem dX8_take_160 : decode cX8_take 160 = .ok (.ladd, 1) := by decide +kernel
theorem dX8_take_161 : decode cX8_take 161 = .ok (.lastore, 1) := by decide +kernel
theorem dX8_take_162 : decode cX8_take 162 = .ok (.goto 57, 3) := by decide +kernel
theorem dX8_take_165 : decode cX8_take 165 = .ok (.aload_n 2, 1) := by decide +kernel
theorem dX8_take_166 : decode cX8_take 166 = .ok (.getfield 65, 3) := by decide +kernel
theorem dX8_take_169 : decode cX8_take 169 = .ok (.iconst 1, 1) := by decide +kernel
theorem dX8_take_170 : decode cX8_take 170 = .ok (.aload_n 1, 1) := by decide +kernel
theorem dX8_take_171 : decode cX8_take 171 = .ok (.getfield 76, 3) := by decide +kernel
theorem dX8_take_174 : decode cX8_take 174 = .ok (.i2l, 1) := by decide +kernel
theorem dX8_take_175 : decode cX8_take 175 = .ok (.lastore, 1) := by decide +kernel
theorem dX8_take_176 : decode cX8_take 176 = .ok (.goto 43, 3) := by decide +kernel
theorem dX8_take_179 : decode cX8_take 179 = .ok (.aload_n 2, 1) := by decide +kernel
theorem dX8_take_180 : decode cX8_take 180 = .ok (.getfield 65, 3) := by decide +kernel
theorem dX8_take_183 : decode cX8_take 183 = .ok (.bipush 9, 2) := by decide +kernel
theorem dX8_take_185 : decode cX8_take 185 = .ok (.dup2, 1) := by decide +kernel
theorem dX8_take_186 : decode cX8_take 186 = .ok (.laload, 1) := by decide +kernel
theorem dX8_take_187 : decode cX8_take 187 = .ok (.lconst 1, 1) := by decide +kernel
theorem dX8_take_188 : decode cX8_take 188 = .ok (.ladd, 1) := by decide +kernel
theorem dX8_take_189 : decode cX8_take 189 = .ok (.lastore, 1) := by decide +kernel
theorem dX8_take_190 : decode cX8_take 190 = .ok (.goto 29, 3) := by decide +kernel
theorem dX8_take_193 : decode cX8_take 193 = .ok (.aload_n 2, 1) := by decide +kernel
theorem dX8_take_194 : decode cX8_take 194 = .ok (.getfield 65, 3) := by decide +kernel
theorem dX8_take_197 : decode cX8_take 197 = .ok (.bipush 10, 2) := by decide +kernel
theorem dX8_take_199 : decode cX8_take 199 = .ok (.dup2, 1) := by decide +kernel
theorem dX8_take_200 : decode cX8_take 200 = .ok (.laload, 1) := by decide +kernel
theorem dX8_take_201 : decode cX8_take 201 = .ok (.lconst 1, 1) := by decide +kernel
theorem dX8_take_202 : decode cX8_take 202 = .ok (.ladd, 1) := by decide +kernel
theorem dX8_take_203 : decode cX8_take 203 = .ok (.lastore, 1) := by decide +kernel
theorem dX8_take_204 : decode cX8_take 204 = .ok (.goto 15, 3) := by decide +kernel
theorem dX8_take_207 : decode cX8_take 207 = .ok (.aload_n 0, 1) := by decide +kernel
theorem dX8_take_208 : decode cX8_take 208 = .ok (.aload_n 1, 1) := by decide +kernel
theorem dX8_take_209 : decode cX8_take 209 = .ok (.getfield 73, 3) := by decide +kernel
theorem dX8_take_212 : decode cX8_take 212 = .ok (.aload_n 1, 1) := by decide +kernel
theorem dX8_take_213 : decode cX8_take 213 = .ok (.getfield 99, 3) := by decide +kernel
theorem dX8_take_216 : decode cX8_take 216 = .ok (.invokevirtual 102, 3) := by decide +kernel
theorem dX8_take_219 : decode cX8_take 219 = .ok (.return_, 1) := by decide +kernel
theorem dX8_see_0 : decode cX8_see 0 = .ok (.iload_n 1, 1) := by decide +kernel
theorem dX8_see_1 : decode cX8_see 1 = .ok (.iload_n 2, 1) := by decide +kernel
theorem dX8_see_2 : decode cX8_see 2 = .ok (.invokestatic 106, 3) := by decide +kernel
theorem dX8_see_5 : decode cX8_see 5 = .ok (.istore_n 3, 1) := by decide +kernel
theorem dX8_see_6 : decode cX8_see 6 = .ok (.iload_n 3, 1) := by decide +kernel
theorem dX8_see_7 : decode cX8_see 7 = .ok (.iconst (-1), 1) := by decide +kernel
theorem dX8_see_8 : decode cX8_see 8 = .ok (.if_icmp .eq 13, 3) := by decide +kernel
theorem dX8_see_11 : decode cX8_see 11 = .ok (.aload_n 0, 1) := by decide +kernel
theorem dX8_see_12 : decode cX8_see 12 = .ok (.getfield 13, 3) := by decide +kernel
theorem dX8_see_15 : decode cX8_see 15 = .ok (.iload_n 3, 1) := by decide +kernel
theorem dX8_see_16 : decode cX8_see 16 = .ok (.dup2, 1) := by decide +kernel
theorem dX8_see_17 : decode cX8_see 17 = .ok (.iaload, 1) := by decide +kernel
theorem dX8_see_18 : decode cX8_see 18 = .ok (.iconst 1, 1) := by decide +kernel
theorem dX8_see_19 : decode cX8_see 19 = .ok (.iadd, 1) := by decide +kernel
theorem dX8_see_20 : decode cX8_see 20 = .ok (.iastore, 1) := by decide +kernel
theorem dX8_see_21 : decode cX8_see 21 = .ok (.return_, 1) := by decide +kernel
theorem dX8_timesSeen_0 : decode cX8_timesSeen 0 = .ok (.iload_n 1, 1) := by decide +kernel
theorem dX8_timesSeen_1 : decode cX8_timesSeen 1 = .ok (.iload_n 2, 1) := by decide +kernel
theorem dX8_timesSeen_2 : decode cX8_timesSeen 2 = .ok (.invokestatic 106, 3) := by decide +kernel
theorem dX8_timesSeen_5 : decode cX8_timesSeen 5 = .ok (.istore_n 3, 1) := by decide +kernel
theorem dX8_timesSeen_6 : decode cX8_timesSeen 6 = .ok (.iload_n 3, 1) := by decide +kernel
theorem dX8_timesSeen_7 : decode cX8_timesSeen 7 = .ok (.iconst (-1), 1) := by decide +kernel
theorem dX8_timesSeen_8 : decode cX8_timesSeen 8 = .ok (.if_icmp .ne 7, 3) := by decide +kernel
theorem dX8_timesSeen_11 : decode cX8_timesSeen 11 = .ok (.iconst 0, 1) := by decide +kernel
theorem dX8_timesSeen_12 : decode cX8_timesSeen 12 = .ok (.goto 9, 3) := by decide +kernel
theorem dX8_timesSeen_15 : decode cX8_timesSeen 15 = .ok (.aload_n 0, 1) := by decide +kernel
theorem dX8_timesSeen_16 : decode cX8_timesSeen 16 = .ok (.getfield 13, 3) := by decide +kernel
theorem dX8_timesSeen_19 : decode cX8_timesSeen 19 = .ok (.iload_n 3, 1) := by decide +kernel
theorem dX8_timesSeen_20 : decode cX8_timesSeen 20 = .ok (.iaload, 1) := by decide +kernel
theorem dX8_timesSeen_21 : decode cX8_timesSeen 21 = .ok (.ireturn, 1) := by decide +kernel
theorem dX8_seenAt_0 : decode cX8_seenAt 0 = .ok (.iload_n 0, 1) := by decide +kernel
theorem dX8_seenAt_1 : decode cX8_seenAt 1 = .ok (.iconst 3, 1) := by decide +kernel
theorem dX8_seenAt_2 : decode cX8_seenAt 2 = .ok (.bipush 6, 2) := by decide +kernel
theorem dX8_seenAt_4 : decode cX8_seenAt 4 = .ok (.invokestatic 109, 3) := by decide +kernel
theorem dX8_seenAt_7 : decode cX8_seenAt 7 = .ok (.ifCond .eq 13, 3) := by decide +kernel
theorem dX8_seenAt_10 : decode cX8_seenAt 10 = .ok (.iload_n 1, 1) := by decide +kernel
theorem dX8_seenAt_11 : decode cX8_seenAt 11 = .ok (.iconst 0, 1) := by decide +kernel
theorem dX8_seenAt_12 : decode cX8_seenAt 12 = .ok (.bipush 29, 2) := by decide +kernel
theorem dX8_seenAt_14 : decode cX8_seenAt 14 = .ok (.invokestatic 109, 3) := by decide +kernel
theorem dX8_seenAt_17 : decode cX8_seenAt 17 = .ok (.ifCond .ne 5, 3) := by decide +kernel
theorem dX8_seenAt_20 : decode cX8_seenAt 20 = .ok (.iconst (-1), 1) := by decide +kernel
theorem dX8_seenAt_21 : decode cX8_seenAt 21 = .ok (.ireturn, 1) := by decide +kernel
theorem dX8_seenAt_22 : decode cX8_seenAt 22 = .ok (.iload_n 0, 1) := by decide +kernel
theorem dX8_seenAt_23 : decode cX8_seenAt 23 = .ok (.iconst 3, 1) := by decide +kernel
theorem dX8_seenAt_24 : decode cX8_seenAt 24 = .ok (.isub, 1) := by decide +kernel
theorem dX8_seenAt_25 : decode cX8_seenAt 25 = .ok (.bipush 30, 2) := by decide +kernel
theorem dX8_seenAt_27 : decode cX8_seenAt 27 = .ok (.imul, 1) := by decide +kernel
theorem dX8_seenAt_28 : decode cX8_seenAt 28 = .ok (.iload_n 1, 1) := by decide +kernel
theorem dX8_seenAt_29 : decode cX8_seenAt 29 = .ok (.iadd, 1) := by decide +kernel
theorem dX8_seenAt_30 : decode cX8_seenAt 30 = .ok (.ireturn, 1) := by decide +kernel
theorem dX8_takeTime_0 : decode cX8_takeTime 0 = .ok (.aload_n 0, 1) := by decide +kernel
theorem dX8_takeTime_1 : decode cX8_takeTime 1 = .ok (.getfield 17, 3) := by decide +kernel
theorem dX8_takeTime_4 : decode cX8_takeTime 4 = .ok (.getfield 113, 3) := by decide +kernel
theorem dX8_takeTime_7 : decode cX8_takeTime 7 = .ok (.istore_n 2, 1) := by decide +kernel
theorem dX8_takeTime_8 : decode cX8_takeTime 8 = .ok (.aload_n 1, 1) := by decide +kernel
theorem dX8_takeTime_9 : decode cX8_takeTime 9 = .ok (.getfield 65, 3) := by decide +kernel
theorem dX8_takeTime_12 : decode cX8_takeTime 12 = .ok (.bipush 14, 2) := by decide +kernel
theorem dX8_takeTime_14 : decode cX8_takeTime 14 = .ok (.iload_n 2, 1) := by decide +kernel
theorem dX8_takeTime_15 : decode cX8_takeTime 15 = .ok (.i2l, 1) := by decide +kernel
theorem dX8_takeTime_16 : decode cX8_takeTime 16 = .ok (.lastore, 1) := by decide +kernel
theorem dX8_takeTime_17 : decode cX8_takeTime 17 = .ok (.aload_n 1, 1) := by decide +kernel
theorem dX8_takeTime_18 : decode cX8_takeTime 18 = .ok (.getfield 79, 3) := by decide +kernel
theorem dX8_takeTime_21 : decode cX8_takeTime 21 = .ok (.ifCond .eq 10, 3) := by decide +kernel
theorem dX8_takeTime_24 : decode cX8_takeTime 24 = .ok (.aload_n 1, 1) := by decide +kernel
theorem dX8_takeTime_25 : decode cX8_takeTime 25 = .ok (.getfield 90, 3) := by decide +kernel
theorem dX8_takeTime_28 : decode cX8_takeTime 28 = .ok (.ifCond .ne 4, 3) := by decide +kernel
theorem dX8_takeTime_31 : decode cX8_takeTime 31 = .ok (.return_, 1) := by decide +kernel
theorem dX8_takeTime_32 : decode cX8_takeTime 32 = .ok (.aload_n 1, 1) := by decide +kernel
theorem dX8_takeTime_33 : decode cX8_takeTime 33 = .ok (.iconst 0, 1) := by decide +kernel
theorem dX8_takeTime_34 : decode cX8_takeTime 34 = .ok (.aload_n 1, 1) := by decide +kernel
theorem dX8_takeTime_35 : decode cX8_takeTime 35 = .ok (.getfield 93, 3) := by decide +kernel
theorem dX8_takeTime_38 : decode cX8_takeTime 38 = .ok (.aload_n 1, 1) := by decide +kernel
theorem dX8_takeTime_39 : decode cX8_takeTime 39 = .ok (.getfield 87, 3) := by decide +kernel
theorem dX8_takeTime_42 : decode cX8_takeTime 42 = .ok (.isub, 1) := by decide +kernel
theorem dX8_takeTime_43 : decode cX8_takeTime 43 = .ok (.aload_n 0, 1) := by decide +kernel
theorem dX8_takeTime_44 : decode cX8_takeTime 44 = .ok (.getfield 30, 3) := by decide +kernel
theorem dX8_takeTime_47 : decode cX8_takeTime 47 = .ok (.isub, 1) := by decide +kernel
theorem dX8_takeTime_48 : decode cX8_takeTime 48 = .ok (.invokestatic 116, 3) := by decide +kernel
theorem dX8_takeTime_51 : decode cX8_takeTime 51 = .ok (.putfield 121, 3) := by decide +kernel
theorem dX8_takeTime_54 : decode cX8_takeTime 54 = .ok (.aload_n 1, 1) := by decide +kernel
theorem dX8_takeTime_55 : decode cX8_takeTime 55 = .ok (.getfield 65, 3) := by decide +kernel
theorem dX8_takeTime_58 : decode cX8_takeTime 58 = .ok (.bipush 12, 2) := by decide +kernel
theorem dX8_takeTime_60 : decode cX8_takeTime 60 = .ok (.iconst 0, 1) := by decide +kernel
theorem dX8_takeTime_61 : decode cX8_takeTime 61 = .ok (.aload_n 1, 1) := by decide +kernel
theorem dX8_takeTime_62 : decode cX8_takeTime 62 = .ok (.getfield 121, 3) := by decide +kernel
theorem dX8_takeTime_65 : decode cX8_takeTime 65 = .ok (.iload_n 2, 1) := by decide +kernel
theorem dX8_takeTime_66 : decode cX8_takeTime 66 = .ok (.isub, 1) := by decide +kernel
theorem dX8_takeTime_67 : decode cX8_takeTime 67 = .ok (.invokestatic 116, 3) := by decide +kernel
theorem dX8_takeTime_70 : decode cX8_takeTime 70 = .ok (.i2l, 1) := by decide +kernel
theorem dX8_takeTime_71 : decode cX8_takeTime 71 = .ok (.lastore, 1) := by decide +kernel
theorem dX8_takeTime_72 : decode cX8_takeTime 72 = .ok (.aload_n 1, 1) := by decide +kernel
theorem dX8_takeTime_73 : decode cX8_takeTime 73 = .ok (.getfield 65, 3) := by decide +kernel
theorem dX8_takeTime_76 : decode cX8_takeTime 76 = .ok (.bipush 13, 2) := by decide +kernel
theorem dX8_takeTime_78 : decode cX8_takeTime 78 = .ok (.iconst 0, 1) := by decide +kernel
end
section
theorem dX8_takeTime_79 : decode cX8_takeTime 79 = .ok (.iload_n 2, 1) := by decide +kernel
theorem dX8_takeTime_80 : decode cX8_takeTime 80 = .ok (.aload_n 1, 1) := by decide +kernel
theorem dX8_takeTime_81 : decode cX8_takeTime 81 = .ok (.getfield 121, 3) := by decide +kernel
theorem dX8_takeTime_84 : decode cX8_takeTime 84 = .ok (.isub, 1) := by decide +kernel
theorem dX8_takeTime_85 : decode cX8_takeTime 85 = .ok (.invokestatic 116, 3) := by decide +kernel
theorem dX8_takeTime_88 : decode cX8_takeTime 88 = .ok (.i2l, 1) := by decide +kernel
theorem dX8_takeTime_89 : decode cX8_takeTime 89 = .ok (.lastore, 1) := by decide +kernel
theorem dX8_takeTime_90 : decode cX8_takeTime 90 = .ok (.return_, 1) := by decide +kernel
theorem dX8_takeFence_0 : decode cX8_takeFence 0 = .ok (.aload_n 0, 1) := by decide +kernel
theorem dX8_takeFence_1 : decode cX8_takeFence 1 = .ok (.iconst 3, 1) := by decide +kernel
theorem dX8_takeFence_2 : decode cX8_takeFence 2 = .ok (.iload_n 1, 1) := by decide +kernel
theorem dX8_takeFence_3 : decode cX8_takeFence 3 = .ok (.invokevirtual 124, 3) := by decide +kernel
theorem dX8_takeFence_6 : decode cX8_takeFence 6 = .ok (.istore_n 3, 1) := by decide +kernel
theorem dX8_takeFence_7 : decode cX8_takeFence 7 = .ok (.aload_n 0, 1) := by decide +kernel
theorem dX8_takeFence_8 : decode cX8_takeFence 8 = .ok (.iconst 4, 1) := by decide +kernel
theorem dX8_takeFence_9 : decode cX8_takeFence 9 = .ok (.iload_n 1, 1) := by decide +kernel
theorem dX8_takeFence_10 : decode cX8_takeFence 10 = .ok (.invokevirtual 124, 3) := by decide +kernel
theorem dX8_takeFence_13 : decode cX8_takeFence 13 = .ok (.istore 4, 2) := by decide +kernel
theorem dX8_takeFence_15 : decode cX8_takeFence 15 = .ok (.aload_n 0, 1) := by decide +kernel
theorem dX8_takeFence_16 : decode cX8_takeFence 16 = .ok (.iconst 5, 1) := by decide +kernel
theorem dX8_takeFence_17 : decode cX8_takeFence 17 = .ok (.iload_n 1, 1) := by decide +kernel
theorem dX8_takeFence_18 : decode cX8_takeFence 18 = .ok (.invokevirtual 124, 3) := by decide +kernel
theorem dX8_takeFence_21 : decode cX8_takeFence 21 = .ok (.istore 5, 2) := by decide +kernel
theorem dX8_takeFence_23 : decode cX8_takeFence 23 = .ok (.aload_n 0, 1) := by decide +kernel
theorem dX8_takeFence_24 : decode cX8_takeFence 24 = .ok (.bipush 6, 2) := by decide +kernel
theorem dX8_takeFence_26 : decode cX8_takeFence 26 = .ok (.iload_n 1, 1) := by decide +kernel
theorem dX8_takeFence_27 : decode cX8_takeFence 27 = .ok (.invokevirtual 124, 3) := by decide +kernel
theorem dX8_takeFence_30 : decode cX8_takeFence 30 = .ok (.istore 6, 2) := by decide +kernel
theorem dX8_takeFence_32 : decode cX8_takeFence 32 = .ok (.aload_n 2, 1) := by decide +kernel
theorem dX8_takeFence_33 : decode cX8_takeFence 33 = .ok (.iconst 2, 1) := by decide +kernel
theorem dX8_takeFence_34 : decode cX8_takeFence 34 = .ok (.dup2, 1) := by decide +kernel
theorem dX8_takeFence_35 : decode cX8_takeFence 35 = .ok (.laload, 1) := by decide +kernel
theorem dX8_takeFence_36 : decode cX8_takeFence 36 = .ok (.iload_n 3, 1) := by decide +kernel
theorem dX8_takeFence_37 : decode cX8_takeFence 37 = .ok (.i2l, 1) := by decide +kernel
theorem dX8_takeFence_38 : decode cX8_takeFence 38 = .ok (.ladd, 1) := by decide +kernel
theorem dX8_takeFence_39 : decode cX8_takeFence 39 = .ok (.lastore, 1) := by decide +kernel
theorem dX8_takeFence_40 : decode cX8_takeFence 40 = .ok (.aload_n 2, 1) := by decide +kernel
theorem dX8_takeFence_41 : decode cX8_takeFence 41 = .ok (.iconst 3, 1) := by decide +kernel
theorem dX8_takeFence_42 : decode cX8_takeFence 42 = .ok (.dup2, 1) := by decide +kernel
theorem dX8_takeFence_43 : decode cX8_takeFence 43 = .ok (.laload, 1) := by decide +kernel
theorem dX8_takeFence_44 : decode cX8_takeFence 44 = .ok (.iload 4, 2) := by decide +kernel
theorem dX8_takeFence_46 : decode cX8_takeFence 46 = .ok (.i2l, 1) := by decide +kernel
theorem dX8_takeFence_47 : decode cX8_takeFence 47 = .ok (.ladd, 1) := by decide +kernel
theorem dX8_takeFence_48 : decode cX8_takeFence 48 = .ok (.lastore, 1) := by decide +kernel
theorem dX8_takeFence_49 : decode cX8_takeFence 49 = .ok (.aload_n 2, 1) := by decide +kernel
theorem dX8_takeFence_50 : decode cX8_takeFence 50 = .ok (.iconst 4, 1) := by decide +kernel
theorem dX8_takeFence_51 : decode cX8_takeFence 51 = .ok (.dup2, 1) := by decide +kernel
theorem dX8_takeFence_52 : decode cX8_takeFence 52 = .ok (.laload, 1) := by decide +kernel
theorem dX8_takeFence_53 : decode cX8_takeFence 53 = .ok (.iload 5, 2) := by decide +kernel
theorem dX8_takeFence_55 : decode cX8_takeFence 55 = .ok (.i2l, 1) := by decide +kernel
theorem dX8_takeFence_56 : decode cX8_takeFence 56 = .ok (.ladd, 1) := by decide +kernel
theorem dX8_takeFence_57 : decode cX8_takeFence 57 = .ok (.lastore, 1) := by decide +kernel
theorem dX8_takeFence_58 : decode cX8_takeFence 58 = .ok (.aload_n 2, 1) := by decide +kernel
theorem dX8_takeFence_59 : decode cX8_takeFence 59 = .ok (.iconst 5, 1) := by decide +kernel
theorem dX8_takeFence_60 : decode cX8_takeFence 60 = .ok (.dup2, 1) := by decide +kernel
theorem dX8_takeFence_61 : decode cX8_takeFence 61 = .ok (.laload, 1) := by decide +kernel
theorem dX8_takeFence_62 : decode cX8_takeFence 62 = .ok (.iload_n 3, 1) := by decide +kernel
theorem dX8_takeFence_63 : decode cX8_takeFence 63 = .ok (.iconst 1, 1) := by decide +kernel
theorem dX8_takeFence_64 : decode cX8_takeFence 64 = .ok (.if_icmp .lt 7, 3) := by decide +kernel
theorem dX8_takeFence_67 : decode cX8_takeFence 67 = .ok (.lconst 1, 1) := by decide +kernel
theorem dX8_takeFence_68 : decode cX8_takeFence 68 = .ok (.goto 4, 3) := by decide +kernel
theorem dX8_takeFence_71 : decode cX8_takeFence 71 = .ok (.lconst 0, 1) := by decide +kernel
theorem dX8_takeFence_72 : decode cX8_takeFence 72 = .ok (.ladd, 1) := by decide +kernel
theorem dX8_takeFence_73 : decode cX8_takeFence 73 = .ok (.lastore, 1) := by decide +kernel
theorem dX8_takeFence_74 : decode cX8_takeFence 74 = .ok (.aload_n 2, 1) := by decide +kernel
theorem dX8_takeFence_75 : decode cX8_takeFence 75 = .ok (.bipush 6, 2) := by decide +kernel
theorem dX8_takeFence_77 : decode cX8_takeFence 77 = .ok (.dup2, 1) := by decide +kernel
theorem dX8_takeFence_78 : decode cX8_takeFence 78 = .ok (.laload, 1) := by decide +kernel
theorem dX8_takeFence_79 : decode cX8_takeFence 79 = .ok (.iload_n 3, 1) := by decide +kernel
theorem dX8_takeFence_80 : decode cX8_takeFence 80 = .ok (.iconst 2, 1) := by decide +kernel
theorem dX8_takeFence_81 : decode cX8_takeFence 81 = .ok (.if_icmp .lt 7, 3) := by decide +kernel
theorem dX8_takeFence_84 : decode cX8_takeFence 84 = .ok (.lconst 1, 1) := by decide +kernel
theorem dX8_takeFence_85 : decode cX8_takeFence 85 = .ok (.goto 4, 3) := by decide +kernel
theorem dX8_takeFence_88 : decode cX8_takeFence 88 = .ok (.lconst 0, 1) := by decide +kernel
theorem dX8_takeFence_89 : decode cX8_takeFence 89 = .ok (.ladd, 1) := by decide +kernel
theorem dX8_takeFence_90 : decode cX8_takeFence 90 = .ok (.lastore, 1) := by decide +kernel
theorem dX8_takeFence_91 : decode cX8_takeFence 91 = .ok (.aload_n 2, 1) := by decide +kernel
theorem dX8_takeFence_92 : decode cX8_takeFence 92 = .ok (.bipush 7, 2) := by decide +kernel
theorem dX8_takeFence_94 : decode cX8_takeFence 94 = .ok (.dup2, 1) := by decide +kernel
theorem dX8_takeFence_95 : decode cX8_takeFence 95 = .ok (.laload, 1) := by decide +kernel
theorem dX8_takeFence_96 : decode cX8_takeFence 96 = .ok (.iload_n 3, 1) := by decide +kernel
theorem dX8_takeFence_97 : decode cX8_takeFence 97 = .ok (.iconst 3, 1) := by decide +kernel
theorem dX8_takeFence_98 : decode cX8_takeFence 98 = .ok (.if_icmp .lt 7, 3) := by decide +kernel
theorem dX8_takeFence_101 : decode cX8_takeFence 101 = .ok (.lconst 1, 1) := by decide +kernel
theorem dX8_takeFence_102 : decode cX8_takeFence 102 = .ok (.goto 4, 3) := by decide +kernel
theorem dX8_takeFence_105 : decode cX8_takeFence 105 = .ok (.lconst 0, 1) := by decide +kernel
theorem dX8_takeFence_106 : decode cX8_takeFence 106 = .ok (.ladd, 1) := by decide +kernel
theorem dX8_takeFence_107 : decode cX8_takeFence 107 = .ok (.lastore, 1) := by decide +kernel
theorem dX8_takeFence_108 : decode cX8_takeFence 108 = .ok (.aload_n 2, 1) := by decide +kernel
theorem dX8_takeFence_109 : decode cX8_takeFence 109 = .ok (.bipush 11, 2) := by decide +kernel
theorem dX8_takeFence_111 : decode cX8_takeFence 111 = .ok (.dup2, 1) := by decide +kernel
theorem dX8_takeFence_112 : decode cX8_takeFence 112 = .ok (.laload, 1) := by decide +kernel
theorem dX8_takeFence_113 : decode cX8_takeFence 113 = .ok (.iload_n 3, 1) := by decide +kernel
theorem dX8_takeFence_114 : decode cX8_takeFence 114 = .ok (.iload 4, 2) := by decide +kernel
theorem dX8_takeFence_116 : decode cX8_takeFence 116 = .ok (.iadd, 1) := by decide +kernel
theorem dX8_takeFence_117 : decode cX8_takeFence 117 = .ok (.iload 5, 2) := by decide +kernel
theorem dX8_takeFence_119 : decode cX8_takeFence 119 = .ok (.iadd, 1) := by decide +kernel
theorem dX8_takeFence_120 : decode cX8_takeFence 120 = .ok (.iload 6, 2) := by decide +kernel
theorem dX8_takeFence_122 : decode cX8_takeFence 122 = .ok (.iadd, 1) := by decide +kernel
theorem dX8_takeFence_123 : decode cX8_takeFence 123 = .ok (.ifCond .ne 7, 3) := by decide +kernel
theorem dX8_takeFence_126 : decode cX8_takeFence 126 = .ok (.lconst 1, 1) := by decide +kernel
theorem dX8_takeFence_127 : decode cX8_takeFence 127 = .ok (.goto 4, 3) := by decide +kernel
theorem dX8_takeFence_130 : decode cX8_takeFence 130 = .ok (.lconst 0, 1) := by decide +kernel
theorem dX8_takeFence_131 : decode cX8_takeFence 131 = .ok (.ladd, 1) := by decide +kernel
theorem dX8_takeFence_132 : decode cX8_takeFence 132 = .ok (.lastore, 1) := by decide +kernel
theorem dX8_takeFence_133 : decode cX8_takeFence 133 = .ok (.return_, 1) := by decide +kernel
theorem dX9_init_0 : decode cX9_init 0 = .ok (.aload_n 0, 1) := by decide +kernel
theorem dX9_init_1 : decode cX9_init 1 = .ok (.invokespecial 1, 3) := by decide +kernel
theorem dX9_init_4 : decode cX9_init 4 = .ok (.aload_n 0, 1) := by decide +kernel
theorem dX9_init_5 : decode cX9_init 5 = .ok (.sipush 600, 3) := by decide +kernel
theorem dX9_init_8 : decode cX9_init 8 = .ok (.newarray .int, 2) := by decide +kernel
theorem dX9_init_10 : decode cX9_init 10 = .ok (.putfield 9, 3) := by decide +kernel
theorem dX9_init_13 : decode cX9_init 13 = .ok (.return_, 1) := by decide +kernel
theorem dX9_hasRoom_0 : decode cX9_hasRoom 0 = .ok (.aload_n 0, 1) := by decide +kernel
theorem dX9_hasRoom_1 : decode cX9_hasRoom 1 = .ok (.getfield 13, 3) := by decide +kernel
theorem dX9_hasRoom_4 : decode cX9_hasRoom 4 = .ok (.sipush 580, 3) := by decide +kernel
theorem dX9_hasRoom_7 : decode cX9_hasRoom 7 = .ok (.if_icmp .gt 7, 3) := by decide +kernel
theorem dX9_hasRoom_10 : decode cX9_hasRoom 10 = .ok (.iconst 1, 1) := by decide +kernel
theorem dX9_hasRoom_11 : decode cX9_hasRoom 11 = .ok (.goto 4, 3) := by decide +kernel
theorem dX9_hasRoom_14 : decode cX9_hasRoom 14 = .ok (.iconst 0, 1) := by decide +kernel
theorem dX9_hasRoom_15 : decode cX9_hasRoom 15 = .ok (.ireturn, 1) := by decide +kernel
theorem dX9_append_0 : decode cX9_append 0 = .ok (.bipush 24, 2) := by decide +kernel
theorem dX9_append_2 : decode cX9_append 2 = .ok (.istore_n 2, 1) := by decide +kernel
theorem dX9_append_3 : decode cX9_append 3 = .ok (.iload_n 2, 1) := by decide +kernel
theorem dX9_append_4 : decode cX9_append 4 = .ok (.ifCond .lt 45, 3) := by decide +kernel
theorem dX9_append_7 : decode cX9_append 7 = .ok (.aload_n 0, 1) := by decide +kernel
theorem dX9_append_8 : decode cX9_append 8 = .ok (.getfield 13, 3) := by decide +kernel
theorem dX9_append_11 : decode cX9_append 11 = .ok (.sipush 600, 3) := by decide +kernel
theorem dX9_append_14 : decode cX9_append 14 = .ok (.if_icmp .ge 35, 3) := by decide +kernel
theorem dX9_append_17 : decode cX9_append 17 = .ok (.aload_n 0, 1) := by decide +kernel
theorem dX9_append_18 : decode cX9_append 18 = .ok (.getfield 9, 3) := by decide +kernel
theorem dX9_append_21 : decode cX9_append 21 = .ok (.aload_n 0, 1) := by decide +kernel
theorem dX9_append_22 : decode cX9_append 22 = .ok (.getfield 13, 3) := by decide +kernel
theorem dX9_append_25 : decode cX9_append 25 = .ok (.iload_n 1, 1) := by decide +kernel
theorem dX9_append_26 : decode cX9_append 26 = .ok (.iload_n 2, 1) := by decide +kernel
theorem dX9_append_27 : decode cX9_append 27 = .ok (.iushr, 1) := by decide +kernel
theorem dX9_append_28 : decode cX9_append 28 = .ok (.sipush 255, 3) := by decide +kernel
theorem dX9_append_31 : decode cX9_append 31 = .ok (.iand, 1) := by decide +kernel
theorem dX9_append_32 : decode cX9_append 32 = .ok (.iastore, 1) := by decide +kernel
theorem dX9_append_33 : decode cX9_append 33 = .ok (.aload_n 0, 1) := by decide +kernel
theorem dX9_append_34 : decode cX9_append 34 = .ok (.dup, 1) := by decide +kernel
theorem dX9_append_35 : decode cX9_append 35 = .ok (.getfield 13, 3) := by decide +kernel
theorem dX9_append_38 : decode cX9_append 38 = .ok (.iconst 1, 1) := by decide +kernel
theorem dX9_append_39 : decode cX9_append 39 = .ok (.iadd, 1) := by decide +kernel
theorem dX9_append_40 : decode cX9_append 40 = .ok (.putfield 13, 3) := by decide +kernel
theorem dX9_append_43 : decode cX9_append 43 = .ok (.iinc 2 (-8), 3) := by decide +kernel
theorem dX9_append_46 : decode cX9_append 46 = .ok (.goto (-43), 3) := by decide +kernel
theorem dX9_append_49 : decode cX9_append 49 = .ok (.return_, 1) := by decide +kernel
theorem dX9_cut_0 : decode cX9_cut 0 = .ok (.iload_n 1, 1) := by decide +kernel
theorem dX9_cut_1 : decode cX9_cut 1 = .ok (.iconst 0, 1) := by decide +kernel
theorem dX9_cut_2 : decode cX9_cut 2 = .ok (.aload_n 0, 1) := by decide +kernel
theorem dX9_cut_3 : decode cX9_cut 3 = .ok (.getfield 13, 3) := by decide +kernel
theorem dX9_cut_6 : decode cX9_cut 6 = .ok (.invokestatic 17, 3) := by decide +kernel
theorem dX9_cut_9 : decode cX9_cut 9 = .ok (.ifCond .ne 5, 3) := by decide +kernel
theorem dX9_cut_12 : decode cX9_cut 12 = .ok (.iconst 0, 1) := by decide +kernel
theorem dX9_cut_13 : decode cX9_cut 13 = .ok (.ireturn, 1) := by decide +kernel
theorem dX9_cut_14 : decode cX9_cut 14 = .ok (.aload_n 0, 1) := by decide +kernel
theorem dX9_cut_15 : decode cX9_cut 15 = .ok (.iload_n 1, 1) := by decide +kernel
theorem dX9_cut_16 : decode cX9_cut 16 = .ok (.putfield 13, 3) := by decide +kernel
theorem dX9_cut_19 : decode cX9_cut 19 = .ok (.iconst 1, 1) := by decide +kernel
theorem dX9_cut_20 : decode cX9_cut 20 = .ok (.ireturn, 1) := by decide +kernel
theorem dX10_init_0 : decode cX10_init 0 = .ok (.aload_n 0, 1) := by decide +kernel
theorem dX10_init_1 : decode cX10_init 1 = .ok (.invokespecial 1, 3) := by decide +kernel
theorem dX10_init_4 : decode cX10_init 4 = .ok (.aload_n 0, 1) := by decide +kernel
theorem dX10_init_5 : decode cX10_init 5 = .ok (.new 7, 3) := by decide +kernel
theorem dX10_init_8 : decode cX10_init 8 = .ok (.dup, 1) := by decide +kernel
theorem dX10_init_9 : decode cX10_init 9 = .ok (.invokespecial 9, 3) := by decide +kernel
theorem dX10_init_12 : decode cX10_init 12 = .ok (.putfield 10, 3) := by decide +kernel
theorem dX10_init_15 : decode cX10_init 15 = .ok (.aload_n 0, 1) := by decide +kernel
theorem dX10_init_16 : decode cX10_init 16 = .ok (.new 16, 3) := by decide +kernel
theorem dX10_init_19 : decode cX10_init 19 = .ok (.dup, 1) := by decide +kernel
theorem dX10_init_20 : decode cX10_init 20 = .ok (.invokespecial 18, 3) := by decide +kernel
theorem dX10_init_23 : decode cX10_init 23 = .ok (.putfield 19, 3) := by decide +kernel
theorem dX10_init_26 : decode cX10_init 26 = .ok (.aload_n 0, 1) := by decide +kernel
theorem dX10_init_27 : decode cX10_init 27 = .ok (.new 23, 3) := by decide +kernel
theorem dX10_init_30 : decode cX10_init 30 = .ok (.dup, 1) := by decide +kernel
theorem dX10_init_31 : decode cX10_init 31 = .ok (.invokespecial 25, 3) := by decide +kernel
theorem dX10_init_34 : decode cX10_init 34 = .ok (.putfield 26, 3) := by decide +kernel
theorem dX10_init_37 : decode cX10_init 37 = .ok (.aload_n 0, 1) := by decide +kernel
theorem dX10_init_38 : decode cX10_init 38 = .ok (.new 30, 3) := by decide +kernel
theorem dX10_init_41 : decode cX10_init 41 = .ok (.dup, 1) := by decide +kernel
theorem dX10_init_42 : decode cX10_init 42 = .ok (.invokespecial 32, 3) := by decide +kernel
theorem dX10_init_45 : decode cX10_init 45 = .ok (.putfield 33, 3) := by decide +kernel
theorem dX10_init_48 : decode cX10_init 48 = .ok (.aload_n 0, 1) := by decide +kernel
theorem dX10_init_49 : decode cX10_init 49 = .ok (.new 37, 3) := by decide +kernel
theorem dX10_init_52 : decode cX10_init 52 = .ok (.dup, 1) := by decide +kernel
theorem dX10_init_53 : decode cX10_init 53 = .ok (.aload_n 0, 1) := by decide +kernel
theorem dX10_init_54 : decode cX10_init 54 = .ok (.getfield 10, 3) := by decide +kernel
theorem dX10_init_57 : decode cX10_init 57 = .ok (.invokespecial 39, 3) := by decide +kernel
theorem dX10_init_60 : decode cX10_init 60 = .ok (.putfield 42, 3) := by decide +kernel
theorem dX10_init_63 : decode cX10_init 63 = .ok (.aload_n 0, 1) := by decide +kernel
theorem dX10_init_64 : decode cX10_init 64 = .ok (.new 46, 3) := by decide +kernel
theorem dX10_init_67 : decode cX10_init 67 = .ok (.dup, 1) := by decide +kernel
theorem dX10_init_68 : decode cX10_init 68 = .ok (.invokespecial 48, 3) := by decide +kernel
theorem dX10_init_71 : decode cX10_init 71 = .ok (.putfield 49, 3) := by decide +kernel
theorem dX10_init_74 : decode cX10_init 74 = .ok (.aload_n 0, 1) := by decide +kernel
theorem dX10_init_75 : decode cX10_init 75 = .ok (.new 46, 3) := by decide +kernel
theorem dX10_init_78 : decode cX10_init 78 = .ok (.dup, 1) := by decide +kernel
theorem dX10_init_79 : decode cX10_init 79 = .ok (.invokespecial 48, 3) := by decide +kernel
theorem dX10_init_82 : decode cX10_init 82 = .ok (.putfield 53, 3) := by decide +kernel
theorem dX10_init_85 : decode cX10_init 85 = .ok (.aload_n 0, 1) := by decide +kernel
theorem dX10_init_86 : decode cX10_init 86 = .ok (.new 56, 3) := by decide +kernel
theorem dX10_init_89 : decode cX10_init 89 = .ok (.dup, 1) := by decide +kernel
theorem dX10_init_90 : decode cX10_init 90 = .ok (.aload_n 0, 1) := by decide +kernel
theorem dX10_init_91 : decode cX10_init 91 = .ok (.getfield 19, 3) := by decide +kernel
theorem dX10_init_94 : decode cX10_init 94 = .ok (.aload_n 0, 1) := by decide +kernel
theorem dX10_init_95 : decode cX10_init 95 = .ok (.getfield 26, 3) := by decide +kernel
theorem dX10_init_98 : decode cX10_init 98 = .ok (.aload_n 0, 1) := by decide +kernel
theorem dX10_init_99 : decode cX10_init 99 = .ok (.getfield 33, 3) := by decide +kernel
theorem dX10_init_102 : decode cX10_init 102 = .ok (.aload_n 0, 1) := by decide +kernel
theorem dX10_init_103 : decode cX10_init 103 = .ok (.getfield 49, 3) := by decide +kernel
theorem dX10_init_106 : decode cX10_init 106 = .ok (.invokespecial 58, 3) := by decide +kernel
theorem dX10_init_109 : decode cX10_init 109 = .ok (.putfield 61, 3) := by decide +kernel
theorem dX10_init_112 : decode cX10_init 112 = .ok (.aload_n 0, 1) := by decide +kernel
theorem dX10_init_113 : decode cX10_init 113 = .ok (.iconst (-1), 1) := by decide +kernel
theorem dX10_init_114 : decode cX10_init 114 = .ok (.putfield 65, 3) := by decide +kernel
theorem dX10_init_117 : decode cX10_init 117 = .ok (.return_, 1) := by decide +kernel
theorem dX10_feed_0 : decode cX10_feed 0 = .ok (.aload_n 0, 1) := by decide +kernel
theorem dX10_feed_1 : decode cX10_feed 1 = .ok (.getfield 10, 3) := by decide +kernel
theorem dX10_feed_4 : decode cX10_feed 4 = .ok (.invokevirtual 69, 3) := by decide +kernel
theorem dX10_feed_7 : decode cX10_feed 7 = .ok (.ifCond .ne 5, 3) := by decide +kernel
theorem dX10_feed_10 : decode cX10_feed 10 = .ok (.iconst (-1), 1) := by decide +kernel
theorem dX10_feed_11 : decode cX10_feed 11 = .ok (.ireturn, 1) := by decide +kernel
theorem dX10_feed_12 : decode cX10_feed 12 = .ok (.aload_n 0, 1) := by decide +kernel
theorem dX10_feed_13 : decode cX10_feed 13 = .ok (.getfield 10, 3) := by decide +kernel
theorem dX10_feed_16 : decode cX10_feed 16 = .ok (.iload_n 1, 1) := by decide +kernel
theorem dX10_feed_17 : decode cX10_feed 17 = .ok (.invokevirtual 73, 3) := by decide +kernel
theorem dX10_feed_20 : decode cX10_feed 20 = .ok (.aload_n 0, 1) := by decide +kernel
theorem dX10_feed_21 : decode cX10_feed 21 = .ok (.getfield 10, 3) := by decide +kernel
theorem dX10_feed_24 : decode cX10_feed 24 = .ok (.iload_n 2, 1) := by decide +kernel
theorem dX10_feed_25 : decode cX10_feed 25 = .ok (.invokevirtual 73, 3) := by decide +kernel
theorem dX10_feed_28 : decode cX10_feed 28 = .ok (.aload_n 0, 1) := by decide +kernel
theorem dX10_feed_29 : decode cX10_feed 29 = .ok (.getfield 10, 3) := by decide +kernel
theorem dX10_feed_32 : decode cX10_feed 32 = .ok (.iload_n 3, 1) := by decide +kernel
theorem dX10_feed_33 : decode cX10_feed 33 = .ok (.invokevirtual 73, 3) := by decide +kernel
theorem dX10_feed_36 : decode cX10_feed 36 = .ok (.aload_n 0, 1) := by decide +kernel
theorem dX10_feed_37 : decode cX10_feed 37 = .ok (.getfield 10, 3) := by decide +kernel
theorem dX10_feed_40 : decode cX10_feed 40 = .ok (.iload 4, 2) := by decide +kernel
theorem dX10_feed_42 : decode cX10_feed 42 = .ok (.invokevirtual 73, 3) := by decide +kernel
theorem dX10_feed_45 : decode cX10_feed 45 = .ok (.aload_n 0, 1) := by decide +kernel
theorem dX10_feed_46 : decode cX10_feed 46 = .ok (.getfield 10, 3) := by decide +kernel
theorem dX10_feed_49 : decode cX10_feed 49 = .ok (.iload 5, 2) := by decide +kernel
theorem dX10_feed_51 : decode cX10_feed 51 = .ok (.invokevirtual 73, 3) := by decide +kernel
theorem dX10_feed_54 : decode cX10_feed 54 = .ok (.aload_n 0, 1) := by decide +kernel
theorem dX10_feed_55 : decode cX10_feed 55 = .ok (.getfield 10, 3) := by decide +kernel
theorem dX10_feed_58 : decode cX10_feed 58 = .ok (.getfield 77, 3) := by decide +kernel
theorem dX10_feed_61 : decode cX10_feed 61 = .ok (.ireturn, 1) := by decide +kernel
theorem dX10_end_0 : decode cX10_end 0 = .ok (.aload_n 0, 1) := by decide +kernel
theorem dX10_end_1 : decode cX10_end 1 = .ok (.getfield 10, 3) := by decide +kernel
theorem dX10_end_4 : decode cX10_end 4 = .ok (.iload_n 1, 1) := by decide +kernel
theorem dX10_end_5 : decode cX10_end 5 = .ok (.invokevirtual 80, 3) := by decide +kernel
theorem dX10_end_8 : decode cX10_end 8 = .ok (.ireturn, 1) := by decide +kernel
theorem dX10_rider_0 : decode cX10_rider 0 = .ok (.aload_n 0, 1) := by decide +kernel
theorem dX10_rider_1 : decode cX10_rider 1 = .ok (.getfield 19, 3) := by decide +kernel
theorem dX10_rider_4 : decode cX10_rider 4 = .ok (.iload_n 1, 1) := by decide +kernel
theorem dX10_rider_5 : decode cX10_rider 5 = .ok (.invokevirtual 84, 3) := by decide +kernel
theorem dX10_rider_8 : decode cX10_rider 8 = .ok (.ireturn, 1) := by decide +kernel
theorem dX10_fence_0 : decode cX10_fence 0 = .ok (.aload_n 0, 1) := by decide +kernel
theorem dX10_fence_1 : decode cX10_fence 1 = .ok (.getfield 26, 3) := by decide +kernel
theorem dX10_fence_4 : decode cX10_fence 4 = .ok (.iload_n 1, 1) := by decide +kernel
theorem dX10_fence_5 : decode cX10_fence 5 = .ok (.invokevirtual 88, 3) := by decide +kernel
theorem dX10_fence_8 : decode cX10_fence 8 = .ok (.istore_n 2, 1) := by decide +kernel
theorem dX10_fence_9 : decode cX10_fence 9 = .ok (.aload_n 0, 1) := by decide +kernel
theorem dX10_fence_10 : decode cX10_fence 10 = .ok (.getfield 61, 3) := by decide +kernel
theorem dX10_fence_13 : decode cX10_fence 13 = .ok (.invokevirtual 91, 3) := by decide +kernel
theorem dX10_fence_16 : decode cX10_fence 16 = .ok (.iload_n 2, 1) := by decide +kernel
theorem dX10_fence_17 : decode cX10_fence 17 = .ok (.ireturn, 1) := by decide +kernel
theorem dX10_course_0 : decode cX10_course 0 = .ok (.aload_n 0, 1) := by decide +kernel
theorem dX10_course_1 : decode cX10_course 1 = .ok (.getfield 26, 3) := by decide +kernel
theorem dX10_course_4 : decode cX10_course 4 = .ok (.iload_n 1, 1) := by decide +kernel
theorem dX10_course_5 : decode cX10_course 5 = .ok (.iload_n 2, 1) := by decide +kernel
theorem dX10_course_6 : decode cX10_course 6 = .ok (.invokevirtual 94, 3) := by decide +kernel
theorem dX10_course_9 : decode cX10_course 9 = .ok (.istore_n 3, 1) := by decide +kernel
theorem dX10_course_10 : decode cX10_course 10 = .ok (.aload_n 0, 1) := by decide +kernel
theorem dX10_course_11 : decode cX10_course 11 = .ok (.getfield 61, 3) := by decide +kernel
theorem dX10_course_14 : decode cX10_course 14 = .ok (.invokevirtual 91, 3) := by decide +kernel
theorem dX10_course_17 : decode cX10_course 17 = .ok (.iload_n 3, 1) := by decide +kernel
theorem dX10_course_18 : decode cX10_course 18 = .ok (.ireturn, 1) := by decide +kernel
theorem dX10_clock_0 : decode cX10_clock 0 = .ok (.aload_n 0, 1) := by decide +kernel
theorem dX10_clock_1 : decode cX10_clock 1 = .ok (.getfield 26, 3) := by decide +kernel
theorem dX10_clock_4 : decode cX10_clock 4 = .ok (.iload_n 1, 1) := by decide +kernel
theorem dX10_clock_5 : decode cX10_clock 5 = .ok (.iload_n 2, 1) := by decide +kernel
theorem dX10_clock_6 : decode cX10_clock 6 = .ok (.invokevirtual 98, 3) := by decide +kernel
theorem dX10_clock_9 : decode cX10_clock 9 = .ok (.istore_n 3, 1) := by decide +kernel
theorem dX10_clock_10 : decode cX10_clock 10 = .ok (.aload_n 0, 1) := by decide +kernel
theorem dX10_clock_11 : decode cX10_clock 11 = .ok (.getfield 61, 3) := by decide +kernel
theorem dX10_clock_14 : decode cX10_clock 14 = .ok (.invokevirtual 91, 3) := by decide +kernel
theorem dX10_clock_17 : decode cX10_clock 17 = .ok (.iload_n 3, 1) := by decide +kernel
theorem dX10_clock_18 : decode cX10_clock 18 = .ok (.ireturn, 1) := by decide +kernel
theorem dX10_out_0 : decode cX10_out 0 = .ok (.aload_n 0, 1) := by decide +kernel
theorem dX10_out_1 : decode cX10_out 1 = .ok (.getfield 26, 3) := by decide +kernel
theorem dX10_out_4 : decode cX10_out 4 = .ok (.iload_n 1, 1) := by decide +kernel
theorem dX10_out_5 : decode cX10_out 5 = .ok (.iload_n 2, 1) := by decide +kernel
theorem dX10_out_6 : decode cX10_out 6 = .ok (.invokevirtual 102, 3) := by decide +kernel
theorem dX10_out_9 : decode cX10_out 9 = .ok (.istore_n 3, 1) := by decide +kernel
theorem dX10_out_10 : decode cX10_out 10 = .ok (.aload_n 0, 1) := by decide +kernel
theorem dX10_out_11 : decode cX10_out 11 = .ok (.getfield 61, 3) := by decide +kernel
theorem dX10_out_14 : decode cX10_out 14 = .ok (.invokevirtual 91, 3) := by decide +kernel
theorem dX10_out_17 : decode cX10_out 17 = .ok (.iload_n 3, 1) := by decide +kernel
theorem dX10_out_18 : decode cX10_out 18 = .ok (.ireturn, 1) := by decide +kernel
theorem dX10_report_0 : decode cX10_report 0 = .ok (.aload_n 0, 1) := by decide +kernel
theorem dX10_report_1 : decode cX10_report 1 = .ok (.getfield 19, 3) := by decide +kernel
theorem dX10_report_4 : decode cX10_report 4 = .ok (.iload_n 1, 1) := by decide +kernel
theorem dX10_report_5 : decode cX10_report 5 = .ok (.invokevirtual 105, 3) := by decide +kernel
theorem dX10_report_8 : decode cX10_report 8 = .ok (.ifCond .eq 16, 3) := by decide +kernel
theorem dX10_report_11 : decode cX10_report 11 = .ok (.aload_n 0, 1) := by decide +kernel
theorem dX10_report_12 : decode cX10_report 12 = .ok (.iload_n 2, 1) := by decide +kernel
theorem dX10_report_13 : decode cX10_report 13 = .ok (.iload_n 3, 1) := by decide +kernel
theorem dX10_report_14 : decode cX10_report 14 = .ok (.iload 4, 2) := by decide +kernel
theorem dX10_report_16 : decode cX10_report 16 = .ok (.iload 5, 2) := by decide +kernel
theorem dX10_report_18 : decode cX10_report 18 = .ok (.invokevirtual 108, 3) := by decide +kernel
theorem dX10_report_21 : decode cX10_report 21 = .ok (.ifCond .ne 5, 3) := by decide +kernel
theorem dX10_report_24 : decode cX10_report 24 = .ok (.iconst (-1), 1) := by decide +kernel
theorem dX10_report_25 : decode cX10_report 25 = .ok (.ireturn, 1) := by decide +kernel
theorem dX10_report_26 : decode cX10_report 26 = .ok (.aload_n 0, 1) := by decide +kernel
theorem dX10_report_27 : decode cX10_report 27 = .ok (.getfield 33, 3) := by decide +kernel
theorem dX10_report_30 : decode cX10_report 30 = .ok (.iload_n 1, 1) := by decide +kernel
theorem dX10_report_31 : decode cX10_report 31 = .ok (.iload_n 2, 1) := by decide +kernel
theorem dX10_report_32 : decode cX10_report 32 = .ok (.iload_n 3, 1) := by decide +kernel
theorem dX10_report_33 : decode cX10_report 33 = .ok (.iload 4, 2) := by decide +kernel
theorem dX10_report_35 : decode cX10_report 35 = .ok (.iload 5, 2) := by decide +kernel
theorem dX10_report_37 : decode cX10_report 37 = .ok (.invokevirtual 112, 3) := by decide +kernel
theorem dX10_report_40 : decode cX10_report 40 = .ok (.ireturn, 1) := by decide +kernel
theorem dX10_strike_0 : decode cX10_strike 0 = .ok (.aload_n 0, 1) := by decide +kernel
theorem dX10_strike_1 : decode cX10_strike 1 = .ok (.getfield 33, 3) := by decide +kernel
theorem dX10_strike_4 : decode cX10_strike 4 = .ok (.iload_n 1, 1) := by decide +kernel
theorem dX10_strike_5 : decode cX10_strike 5 = .ok (.invokevirtual 116, 3) := by decide +kernel
theorem dX10_strike_8 : decode cX10_strike 8 = .ok (.ireturn, 1) := by decide +kernel
theorem dX10_as_0 : decode cX10_as 0 = .ok (.iload_n 1, 1) := by decide +kernel
theorem dX10_as_1 : decode cX10_as 1 = .ok (.iconst (-1), 1) := by decide +kernel
theorem dX10_as_2 : decode cX10_as 2 = .ok (.aload_n 0, 1) := by decide +kernel
theorem dX10_as_3 : decode cX10_as 3 = .ok (.getfield 33, 3) := by decide +kernel
theorem dX10_as_6 : decode cX10_as 6 = .ok (.getfield 119, 3) := by decide +kernel
theorem dX10_as_9 : decode cX10_as 9 = .ok (.invokestatic 122, 3) := by decide +kernel
theorem dX10_as_12 : decode cX10_as 12 = .ok (.ifCond .ne 5, 3) := by decide +kernel
theorem dX10_as_15 : decode cX10_as 15 = .ok (.iconst 0, 1) := by decide +kernel
theorem dX10_as_16 : decode cX10_as 16 = .ok (.ireturn, 1) := by decide +kernel
theorem dX10_as_17 : decode cX10_as 17 = .ok (.aload_n 0, 1) := by decide +kernel
theorem dX10_as_18 : decode cX10_as 18 = .ok (.iload_n 1, 1) := by decide +kernel
theorem dX10_as_19 : decode cX10_as 19 = .ok (.putfield 65, 3) := by decide +kernel
theorem dX10_as_22 : decode cX10_as 22 = .ok (.iconst 1, 1) := by decide +kernel
theorem dX10_as_23 : decode cX10_as 23 = .ok (.ireturn, 1) := by decide +kernel
theorem dX10_rules_0 : decode cX10_rules 0 = .ok (.aload_n 0, 1) := by decide +kernel
theorem dX10_rules_1 : decode cX10_rules 1 = .ok (.getfield 42, 3) := by decide +kernel
theorem dX10_rules_4 : decode cX10_rules 4 = .ok (.aload_n 0, 1) := by decide +kernel
theorem dX10_rules_5 : decode cX10_rules 5 = .ok (.getfield 53, 3) := by decide +kernel
theorem dX10_rules_8 : decode cX10_rules 8 = .ok (.invokevirtual 126, 3) := by decide +kernel
theorem dX10_rules_11 : decode cX10_rules 11 = .ok (.istore_n 1, 1) := by decide +kernel
theorem dX10_rules_12 : decode cX10_rules 12 = .ok (.aload_n 0, 1) := by decide +kernel
theorem dX10_rules_13 : decode cX10_rules 13 = .ok (.getfield 10, 3) := by decide +kernel
theorem dX10_rules_16 : decode cX10_rules 16 = .ok (.iconst 0, 1) := by decide +kernel
theorem dX10_rules_17 : decode cX10_rules 17 = .ok (.invokevirtual 80, 3) := by decide +kernel
theorem dX10_rules_20 : decode cX10_rules 20 = .ok (.pop, 1) := by decide +kernel
theorem dX10_rules_21 : decode cX10_rules 21 = .ok (.iload_n 1, 1) := by decide +kernel
theorem dX10_rules_22 : decode cX10_rules 22 = .ok (.ifCond .ne 5, 3) := by decide +kernel
theorem dX10_rules_25 : decode cX10_rules 25 = .ok (.iconst (-1), 1) := by decide +kernel
theorem dX10_rules_26 : decode cX10_rules 26 = .ok (.ireturn, 1) := by decide +kernel
theorem dX10_rules_27 : decode cX10_rules 27 = .ok (.aload_n 0, 1) := by decide +kernel
theorem dX10_rules_28 : decode cX10_rules 28 = .ok (.getfield 49, 3) := by decide +kernel
theorem dX10_rules_31 : decode cX10_rules 31 = .ok (.astore_n 2, 1) := by decide +kernel
theorem dX10_rules_32 : decode cX10_rules 32 = .ok (.aload_n 0, 1) := by decide +kernel
theorem dX10_rules_33 : decode cX10_rules 33 = .ok (.aload_n 0, 1) := by decide +kernel
theorem dX10_rules_34 : decode cX10_rules 34 = .ok (.getfield 53, 3) := by decide +kernel
theorem dX10_rules_37 : decode cX10_rules 37 = .ok (.putfield 49, 3) := by decide +kernel
theorem dX10_rules_40 : decode cX10_rules 40 = .ok (.aload_n 0, 1) := by decide +kernel
theorem dX10_rules_41 : decode cX10_rules 41 = .ok (.aload_n 2, 1) := by decide +kernel
theorem dX10_rules_42 : decode cX10_rules 42 = .ok (.putfield 53, 3) := by decide +kernel
theorem dX10_rules_45 : decode cX10_rules 45 = .ok (.aload_n 0, 1) := by decide +kernel
theorem dX10_rules_46 : decode cX10_rules 46 = .ok (.getfield 61, 3) := by decide +kernel
theorem dX10_rules_49 : decode cX10_rules 49 = .ok (.aload_n 0, 1) := by decide +kernel
theorem dX10_rules_50 : decode cX10_rules 50 = .ok (.getfield 49, 3) := by decide +kernel
theorem dX10_rules_53 : decode cX10_rules 53 = .ok (.invokevirtual 130, 3) := by decide +kernel
theorem dX10_rules_56 : decode cX10_rules 56 = .ok (.aload_n 0, 1) := by decide +kernel
theorem dX10_rules_57 : decode cX10_rules 57 = .ok (.getfield 49, 3) := by decide +kernel
theorem dX10_rules_60 : decode cX10_rules 60 = .ok (.getfield 134, 3) := by decide +kernel
theorem dX10_rules_63 : decode cX10_rules 63 = .ok (.ireturn, 1) := by decide +kernel
theorem dX10_fault_0 : decode cX10_fault 0 = .ok (.iload_n 1, 1) := by decide +kernel
theorem dX10_fault_1 : decode cX10_fault 1 = .ok (.ifCond .ne 11, 3) := by decide +kernel
theorem dX10_fault_4 : decode cX10_fault 4 = .ok (.aload_n 0, 1) := by decide +kernel
theorem dX10_fault_5 : decode cX10_fault 5 = .ok (.getfield 42, 3) := by decide +kernel
theorem dX10_fault_8 : decode cX10_fault 8 = .ok (.getfield 137, 3) := by decide +kernel
theorem dX10_fault_11 : decode cX10_fault 11 = .ok (.ireturn, 1) := by decide +kernel
theorem dX10_fault_12 : decode cX10_fault 12 = .ok (.iload_n 1, 1) := by decide +kernel
theorem dX10_fault_13 : decode cX10_fault 13 = .ok (.iconst 1, 1) := by decide +kernel
theorem dX10_fault_14 : decode cX10_fault 14 = .ok (.if_icmp .ne 13, 3) := by decide +kernel
theorem dX10_fault_17 : decode cX10_fault 17 = .ok (.aload_n 0, 1) := by decide +kernel
theorem dX10_fault_18 : decode cX10_fault 18 = .ok (.getfield 42, 3) := by decide +kernel
theorem dX10_fault_21 : decode cX10_fault 21 = .ok (.getfield 140, 3) := by decide +kernel
theorem dX10_fault_24 : decode cX10_fault 24 = .ok (.goto 4, 3) := by decide +kernel
theorem dX10_fault_27 : decode cX10_fault 27 = .ok (.iconst (-1), 1) := by decide +kernel
theorem dX10_fault_28 : decode cX10_fault 28 = .ok (.ireturn, 1) := by decide +kernel
theorem dX10_count_0 : decode cX10_count 0 = .ok (.aload_n 0, 1) := by decide +kernel
theorem dX10_count_1 : decode cX10_count 1 = .ok (.getfield 61, 3) := by decide +kernel
theorem dX10_count_4 : decode cX10_count 4 = .ok (.aload_n 0, 1) := by decide +kernel
theorem dX10_count_5 : decode cX10_count 5 = .ok (.invokevirtual 143, 3) := by decide +kernel
theorem dX10_count_8 : decode cX10_count 8 = .ok (.invokevirtual 147, 3) := by decide +kernel
theorem dX10_count_11 : decode cX10_count 11 = .ok (.aload_n 0, 1) := by decide +kernel
theorem dX10_count_12 : decode cX10_count 12 = .ok (.getfield 61, 3) := by decide +kernel
theorem dX10_count_15 : decode cX10_count 15 = .ok (.iload_n 1, 1) := by decide +kernel
theorem dX10_count_16 : decode cX10_count 16 = .ok (.invokevirtual 150, 3) := by decide +kernel
theorem dX10_count_19 : decode cX10_count 19 = .ok (.astore_n 3, 1) := by decide +kernel
theorem dX10_count_20 : decode cX10_count 20 = .ok (.aload_n 3, 1) := by decide +kernel
theorem dX10_count_21 : decode cX10_count 21 = .ok (.ifnonnull 8, 3) := by decide +kernel
theorem dX10_count_24 : decode cX10_count 24 = .ok (.ldc 154, 2) := by decide +kernel
theorem dX10_count_26 : decode cX10_count 26 = .ok (.goto 8, 3) := by decide +kernel
theorem dX10_count_29 : decode cX10_count 29 = .ok (.aload_n 3, 1) := by decide +kernel
theorem dX10_count_30 : decode cX10_count 30 = .ok (.iload_n 2, 1) := by decide +kernel
theorem dX10_count_31 : decode cX10_count 31 = .ok (.invokevirtual 155, 3) := by decide +kernel
theorem dX10_count_34 : decode cX10_count 34 = .ok (.ireturn, 1) := by decide +kernel
theorem dX10_given_0 : decode cX10_given 0 = .ok (.aload_n 0, 1) := by decide +kernel
theorem dX10_given_1 : decode cX10_given 1 = .ok (.getfield 61, 3) := by decide +kernel
theorem dX10_given_4 : decode cX10_given 4 = .ok (.aload_n 0, 1) := by decide +kernel
theorem dX10_given_5 : decode cX10_given 5 = .ok (.invokevirtual 143, 3) := by decide +kernel
theorem dX10_given_8 : decode cX10_given 8 = .ok (.invokevirtual 147, 3) := by decide +kernel
theorem dX10_given_11 : decode cX10_given 11 = .ok (.aload_n 0, 1) := by decide +kernel
theorem dX10_given_12 : decode cX10_given 12 = .ok (.getfield 61, 3) := by decide +kernel
theorem dX10_given_15 : decode cX10_given 15 = .ok (.iload_n 1, 1) := by decide +kernel
theorem dX10_given_16 : decode cX10_given 16 = .ok (.invokevirtual 150, 3) := by decide +kernel
theorem dX10_given_19 : decode cX10_given 19 = .ok (.astore_n 3, 1) := by decide +kernel
theorem dX10_given_20 : decode cX10_given 20 = .ok (.aload_n 3, 1) := by decide +kernel
theorem dX10_given_21 : decode cX10_given 21 = .ok (.ifnull 20, 3) := by decide +kernel
theorem dX10_given_24 : decode cX10_given 24 = .ok (.iload_n 2, 1) := by decide +kernel
theorem dX10_given_25 : decode cX10_given 25 = .ok (.iconst 0, 1) := by decide +kernel
theorem dX10_given_26 : decode cX10_given 26 = .ok (.aload_n 0, 1) := by decide +kernel
theorem dX10_given_27 : decode cX10_given 27 = .ok (.getfield 49, 3) := by decide +kernel
theorem dX10_given_30 : decode cX10_given 30 = .ok (.getfield 134, 3) := by decide +kernel
theorem dX10_given_33 : decode cX10_given 33 = .ok (.iconst 1, 1) := by decide +kernel
theorem dX10_given_34 : decode cX10_given 34 = .ok (.isub, 1) := by decide +kernel
theorem dX10_given_35 : decode cX10_given 35 = .ok (.invokestatic 122, 3) := by decide +kernel
theorem dX10_given_38 : decode cX10_given 38 = .ok (.ifCond .ne 7, 3) := by decide +kernel
theorem dX10_given_41 : decode cX10_given 41 = .ok (.ldc2_w 160, 3) := by decide +kernel
theorem dX10_given_44 : decode cX10_given 44 = .ok (.lreturn, 1) := by decide +kernel
theorem dX10_given_45 : decode cX10_given 45 = .ok (.aload_n 3, 1) := by decide +kernel
theorem dX10_given_46 : decode cX10_given 46 = .ok (.bipush 15, 2) := by decide +kernel
theorem dX10_given_48 : decode cX10_given 48 = .ok (.iload_n 2, 1) := by decide +kernel
theorem dX10_given_49 : decode cX10_given 49 = .ok (.iadd, 1) := by decide +kernel
theorem dX10_given_50 : decode cX10_given 50 = .ok (.invokevirtual 162, 3) := by decide +kernel
theorem dX10_given_53 : decode cX10_given 53 = .ok (.lreturn, 1) := by decide +kernel
theorem dX10_total_0 : decode cX10_total 0 = .ok (.aload_n 0, 1) := by decide +kernel
theorem dX10_total_1 : decode cX10_total 1 = .ok (.getfield 61, 3) := by decide +kernel
theorem dX10_total_4 : decode cX10_total 4 = .ok (.aload_n 0, 1) := by decide +kernel
theorem dX10_total_5 : decode cX10_total 5 = .ok (.invokevirtual 143, 3) := by decide +kernel
theorem dX10_total_8 : decode cX10_total 8 = .ok (.invokevirtual 147, 3) := by decide +kernel
theorem dX10_total_11 : decode cX10_total 11 = .ok (.aload_n 0, 1) := by decide +kernel
theorem dX10_total_12 : decode cX10_total 12 = .ok (.getfield 61, 3) := by decide +kernel
theorem dX10_total_15 : decode cX10_total 15 = .ok (.iload_n 1, 1) := by decide +kernel
theorem dX10_total_16 : decode cX10_total 16 = .ok (.invokevirtual 150, 3) := by decide +kernel
theorem dX10_total_19 : decode cX10_total 19 = .ok (.astore_n 2, 1) := by decide +kernel
theorem dX10_total_20 : decode cX10_total 20 = .ok (.aload_n 2, 1) := by decide +kernel
theorem dX10_total_21 : decode cX10_total 21 = .ok (.ifnonnull 9, 3) := by decide +kernel
theorem dX10_total_24 : decode cX10_total 24 = .ok (.ldc2_w 160, 3) := by decide +kernel
theorem dX10_total_27 : decode cX10_total 27 = .ok (.goto 7, 3) := by decide +kernel
theorem dX10_total_30 : decode cX10_total 30 = .ok (.aload_n 2, 1) := by decide +kernel
theorem dX10_total_31 : decode cX10_total 31 = .ok (.getfield 166, 3) := by decide +kernel
theorem dX10_total_34 : decode cX10_total 34 = .ok (.lreturn, 1) := by decide +kernel
theorem dX10_isOut_0 : decode cX10_isOut 0 = .ok (.aload_n 0, 1) := by decide +kernel
theorem dX10_isOut_1 : decode cX10_isOut 1 = .ok (.getfield 61, 3) := by decide +kernel
theorem dX10_isOut_4 : decode cX10_isOut 4 = .ok (.aload_n 0, 1) := by decide +kernel
theorem dX10_isOut_5 : decode cX10_isOut 5 = .ok (.invokevirtual 143, 3) := by decide +kernel
theorem dX10_isOut_8 : decode cX10_isOut 8 = .ok (.invokevirtual 147, 3) := by decide +kernel
theorem dX10_isOut_11 : decode cX10_isOut 11 = .ok (.aload_n 0, 1) := by decide +kernel
theorem dX10_isOut_12 : decode cX10_isOut 12 = .ok (.getfield 61, 3) := by decide +kernel
theorem dX10_isOut_15 : decode cX10_isOut 15 = .ok (.iload_n 1, 1) := by decide +kernel
theorem dX10_isOut_16 : decode cX10_isOut 16 = .ok (.invokevirtual 150, 3) := by decide +kernel
theorem dX10_isOut_19 : decode cX10_isOut 19 = .ok (.astore_n 2, 1) := by decide +kernel
theorem dX10_isOut_20 : decode cX10_isOut 20 = .ok (.aload_n 2, 1) := by decide +kernel
theorem dX10_isOut_21 : decode cX10_isOut 21 = .ok (.ifnonnull 5, 3) := by decide +kernel
theorem dX10_isOut_24 : decode cX10_isOut 24 = .ok (.iconst (-1), 1) := by decide +kernel
theorem dX10_isOut_25 : decode cX10_isOut 25 = .ok (.ireturn, 1) := by decide +kernel
theorem dX10_isOut_26 : decode cX10_isOut 26 = .ok (.aload_n 2, 1) := by decide +kernel
theorem dX10_isOut_27 : decode cX10_isOut 27 = .ok (.getfield 170, 3) := by decide +kernel
theorem dX10_isOut_30 : decode cX10_isOut 30 = .ok (.ifCond .eq 7, 3) := by decide +kernel
theorem dX10_isOut_33 : decode cX10_isOut 33 = .ok (.iconst 1, 1) := by decide +kernel
theorem dX10_isOut_34 : decode cX10_isOut 34 = .ok (.goto 4, 3) := by decide +kernel
theorem dX10_isOut_37 : decode cX10_isOut 37 = .ok (.iconst 0, 1) := by decide +kernel
theorem dX10_isOut_38 : decode cX10_isOut 38 = .ok (.ireturn, 1) := by decide +kernel
theorem dX10_against_0 : decode cX10_against 0 = .ok (.aload_n 0, 1) := by decide +kernel
theorem dX10_against_1 : decode cX10_against 1 = .ok (.getfield 61, 3) := by decide +kernel
theorem dX10_against_4 : decode cX10_against 4 = .ok (.aload_n 0, 1) := by decide +kernel
theorem dX10_against_5 : decode cX10_against 5 = .ok (.invokevirtual 143, 3) := by decide +kernel
theorem dX10_against_8 : decode cX10_against 8 = .ok (.invokevirtual 147, 3) := by decide +kernel
theorem dX10_against_11 : decode cX10_against 11 = .ok (.aload_n 0, 1) := by decide +kernel
theorem dX10_against_12 : decode cX10_against 12 = .ok (.getfield 61, 3) := by decide +kernel
theorem dX10_against_15 : decode cX10_against 15 = .ok (.iload_n 1, 1) := by decide +kernel
theorem dX10_against_16 : decode cX10_against 16 = .ok (.invokevirtual 150, 3) := by decide +kernel
theorem dX10_against_19 : decode cX10_against 19 = .ok (.astore_n 3, 1) := by decide +kernel
theorem dX10_against_20 : decode cX10_against 20 = .ok (.aload_n 0, 1) := by decide +kernel
theorem dX10_against_21 : decode cX10_against 21 = .ok (.getfield 61, 3) := by decide +kernel
theorem dX10_against_24 : decode cX10_against 24 = .ok (.iload_n 2, 1) := by decide +kernel
theorem dX10_against_25 : decode cX10_against 25 = .ok (.invokevirtual 150, 3) := by decide +kernel
theorem dX10_against_28 : decode cX10_against 28 = .ok (.astore 4, 2) := by decide +kernel
theorem dX10_against_30 : decode cX10_against 30 = .ok (.aload_n 3, 1) := by decide +kernel
theorem dX10_against_31 : decode cX10_against 31 = .ok (.ifnull 23, 3) := by decide +kernel
theorem dX10_against_34 : decode cX10_against 34 = .ok (.aload 4, 2) := by decide +kernel
theorem dX10_against_36 : decode cX10_against 36 = .ok (.ifnull 18, 3) := by decide +kernel
theorem dX10_against_39 : decode cX10_against 39 = .ok (.aload_n 3, 1) := by decide +kernel
theorem dX10_against_40 : decode cX10_against 40 = .ok (.getfield 170, 3) := by decide +kernel
theorem dX10_against_43 : decode cX10_against 43 = .ok (.ifCond .ne 11, 3) := by decide +kernel
theorem dX10_against_46 : decode cX10_against 46 = .ok (.aload 4, 2) := by decide +kernel
theorem dX10_against_48 : decode cX10_against 48 = .ok (.getfield 170, 3) := by decide +kernel
theorem dX10_against_51 : decode cX10_against 51 = .ok (.ifCond .eq 6, 3) := by decide +kernel
theorem dX10_against_54 : decode cX10_against 54 = .ok (.bipush (-2), 2) := by decide +kernel
theorem dX10_against_56 : decode cX10_against 56 = .ok (.ireturn, 1) := by decide +kernel
theorem dX10_against_57 : decode cX10_against 57 = .ok (.aload_n 0, 1) := by decide +kernel
theorem dX10_against_58 : decode cX10_against 58 = .ok (.getfield 49, 3) := by decide +kernel
theorem dX10_against_61 : decode cX10_against 61 = .ok (.aload_n 3, 1) := by decide +kernel
theorem dX10_against_62 : decode cX10_against 62 = .ok (.aload 4, 2) := by decide +kernel
theorem dX10_against_64 : decode cX10_against 64 = .ok (.invokevirtual 174, 3) := by decide +kernel
theorem dX10_against_67 : decode cX10_against 67 = .ok (.ireturn, 1) := by decide +kernel
theorem dX10_place_0 : decode cX10_place 0 = .ok (.aload_n 0, 1) := by decide +kernel
theorem dX10_place_1 : decode cX10_place 1 = .ok (.getfield 61, 3) := by decide +kernel
theorem dX10_place_4 : decode cX10_place 4 = .ok (.aload_n 0, 1) := by decide +kernel
theorem dX10_place_5 : decode cX10_place 5 = .ok (.invokevirtual 143, 3) := by decide +kernel
theorem dX10_place_8 : decode cX10_place 8 = .ok (.invokevirtual 147, 3) := by decide +kernel
theorem dX10_place_11 : decode cX10_place 11 = .ok (.aload_n 0, 1) := by decide +kernel
theorem dX10_place_12 : decode cX10_place 12 = .ok (.getfield 61, 3) := by decide +kernel
theorem dX10_place_15 : decode cX10_place 15 = .ok (.iload_n 1, 1) := by decide +kernel
theorem dX10_place_16 : decode cX10_place 16 = .ok (.invokevirtual 178, 3) := by decide +kernel
theorem dX10_place_19 : decode cX10_place 19 = .ok (.ireturn, 1) := by decide +kernel
theorem dX10_team_0 : decode cX10_team 0 = .ok (.aload_n 0, 1) := by decide +kernel
theorem dX10_team_1 : decode cX10_team 1 = .ok (.getfield 61, 3) := by decide +kernel
theorem dX10_team_4 : decode cX10_team 4 = .ok (.aload_n 0, 1) := by decide +kernel
theorem dX10_team_5 : decode cX10_team 5 = .ok (.invokevirtual 143, 3) := by decide +kernel
theorem dX10_team_8 : decode cX10_team 8 = .ok (.invokevirtual 147, 3) := by decide +kernel
theorem dX10_team_11 : decode cX10_team 11 = .ok (.aload_n 0, 1) := by decide +kernel
theorem dX10_team_12 : decode cX10_team 12 = .ok (.getfield 19, 3) := by decide +kernel
theorem dX10_team_15 : decode cX10_team 15 = .ok (.iload_n 1, 1) := by decide +kernel
theorem dX10_team_16 : decode cX10_team 16 = .ok (.invokevirtual 181, 3) := by decide +kernel
theorem dX10_team_19 : decode cX10_team 19 = .ok (.ifCond .ne 9, 3) := by decide +kernel
theorem dX10_team_22 : decode cX10_team 22 = .ok (.ldc2_w 184, 3) := by decide +kernel
theorem dX10_team_25 : decode cX10_team 25 = .ok (.goto 11, 3) := by decide +kernel
theorem dX10_team_28 : decode cX10_team 28 = .ok (.aload_n 0, 1) := by decide +kernel
theorem dX10_team_29 : decode cX10_team 29 = .ok (.getfield 61, 3) := by decide +kernel
theorem dX10_team_32 : decode cX10_team 32 = .ok (.iload_n 1, 1) := by decide +kernel
theorem dX10_team_33 : decode cX10_team 33 = .ok (.invokevirtual 186, 3) := by decide +kernel
theorem dX10_team_36 : decode cX10_team 36 = .ok (.lreturn, 1) := by decide +kernel
theorem dX10_teamPlace_0 : decode cX10_teamPlace 0 = .ok (.aload_n 0, 1) := by decide +kernel
theorem dX10_teamPlace_1 : decode cX10_teamPlace 1 = .ok (.getfield 61, 3) := by decide +kernel
theorem dX10_teamPlace_4 : decode cX10_teamPlace 4 = .ok (.aload_n 0, 1) := by decide +kernel
theorem dX10_teamPlace_5 : decode cX10_teamPlace 5 = .ok (.invokevirtual 143, 3) := by decide +kernel
theorem dX10_teamPlace_8 : decode cX10_teamPlace 8 = .ok (.invokevirtual 147, 3) := by decide +kernel
theorem dX10_teamPlace_11 : decode cX10_teamPlace 11 = .ok (.aload_n 0, 1) := by decide +kernel
theorem dX10_teamPlace_12 : decode cX10_teamPlace 12 = .ok (.getfield 19, 3) := by decide +kernel
theorem dX10_teamPlace_15 : decode cX10_teamPlace 15 = .ok (.iload_n 1, 1) := by decide +kernel
theorem dX10_teamPlace_16 : decode cX10_teamPlace 16 = .ok (.invokevirtual 181, 3) := by decide +kernel
theorem dX10_teamPlace_19 : decode cX10_teamPlace 19 = .ok (.ifCond .ne 7, 3) := by decide +kernel
theorem dX10_teamPlace_22 : decode cX10_teamPlace 22 = .ok (.iconst (-1), 1) := by decide +kernel
theorem dX10_teamPlace_23 : decode cX10_teamPlace 23 = .ok (.goto 11, 3) := by decide +kernel
theorem dX10_teamPlace_26 : decode cX10_teamPlace 26 = .ok (.aload_n 0, 1) := by decide +kernel
theorem dX10_teamPlace_27 : decode cX10_teamPlace 27 = .ok (.getfield 61, 3) := by decide +kernel
theorem dX10_teamPlace_30 : decode cX10_teamPlace 30 = .ok (.iload_n 1, 1) := by decide +kernel
theorem dX10_teamPlace_31 : decode cX10_teamPlace 31 = .ok (.invokevirtual 189, 3) := by decide +kernel
theorem dX10_teamPlace_34 : decode cX10_teamPlace 34 = .ok (.ireturn, 1) := by decide +kernel
theorem dX10_ring_0 : decode cX10_ring 0 = .ok (.aload_n 0, 1) := by decide +kernel
theorem dX10_ring_1 : decode cX10_ring 1 = .ok (.getfield 61, 3) := by decide +kernel
theorem dX10_ring_4 : decode cX10_ring 4 = .ok (.aload_n 0, 1) := by decide +kernel
theorem dX10_ring_5 : decode cX10_ring 5 = .ok (.invokevirtual 143, 3) := by decide +kernel
theorem dX10_ring_8 : decode cX10_ring 8 = .ok (.invokevirtual 147, 3) := by decide +kernel
theorem dX10_ring_11 : decode cX10_ring 11 = .ok (.aload_n 0, 1) := by decide +kernel
theorem dX10_ring_12 : decode cX10_ring 12 = .ok (.getfield 61, 3) := by decide +kernel
theorem dX10_ring_15 : decode cX10_ring 15 = .ok (.iload_n 1, 1) := by decide +kernel
theorem dX10_ring_16 : decode cX10_ring 16 = .ok (.invokevirtual 192, 3) := by decide +kernel
theorem dX10_ring_19 : decode cX10_ring 19 = .ok (.ireturn, 1) := by decide +kernel
theorem dX10_since_0 : decode cX10_since 0 = .ok (.aload_n 0, 1) := by decide +kernel
theorem dX10_since_1 : decode cX10_since 1 = .ok (.invokevirtual 143, 3) := by decide +kernel
theorem dX10_since_4 : decode cX10_since 4 = .ok (.istore_n 2, 1) := by decide +kernel
theorem dX10_since_5 : decode cX10_since 5 = .ok (.aload_n 0, 1) := by decide +kernel
theorem dX10_since_6 : decode cX10_since 6 = .ok (.getfield 61, 3) := by decide +kernel
theorem dX10_since_9 : decode cX10_since 9 = .ok (.iload_n 2, 1) := by decide +kernel
theorem dX10_since_10 : decode cX10_since 10 = .ok (.invokevirtual 147, 3) := by decide +kernel
theorem dX10_since_13 : decode cX10_since 13 = .ok (.aload_n 0, 1) := by decide +kernel
theorem dX10_since_14 : decode cX10_since 14 = .ok (.getfield 61, 3) := by decide +kernel
theorem dX10_since_17 : decode cX10_since 17 = .ok (.iload_n 1, 1) := by decide +kernel
theorem dX10_since_18 : decode cX10_since 18 = .ok (.invokevirtual 178, 3) := by decide +kernel
theorem dX10_since_21 : decode cX10_since 21 = .ok (.istore_n 3, 1) := by decide +kernel
theorem dX10_since_22 : decode cX10_since 22 = .ok (.iload_n 3, 1) := by decide +kernel
theorem dX10_since_23 : decode cX10_since 23 = .ok (.iconst (-1), 1) := by decide +kernel
theorem dX10_since_24 : decode cX10_since 24 = .ok (.if_icmp .ne 5, 3) := by decide +kernel
theorem dX10_since_27 : decode cX10_since 27 = .ok (.iconst (-1), 1) := by decide +kernel
theorem dX10_since_28 : decode cX10_since 28 = .ok (.ireturn, 1) := by decide +kernel
theorem dX10_since_29 : decode cX10_since 29 = .ok (.iload_n 2, 1) := by decide +kernel
theorem dX10_since_30 : decode cX10_since 30 = .ok (.iconst 1, 1) := by decide +kernel
theorem dX10_since_31 : decode cX10_since 31 = .ok (.isub, 1) := by decide +kernel
theorem dX10_since_32 : decode cX10_since 32 = .ok (.istore 4, 2) := by decide +kernel
theorem dX10_since_34 : decode cX10_since 34 = .ok (.iload 4, 2) := by decide +kernel
theorem dX10_since_36 : decode cX10_since 36 = .ok (.ifCond .lt 33, 3) := by decide +kernel
theorem dX10_since_39 : decode cX10_since 39 = .ok (.aload_n 0, 1) := by decide +kernel
theorem dX10_since_40 : decode cX10_since 40 = .ok (.getfield 61, 3) := by decide +kernel
theorem dX10_since_43 : decode cX10_since 43 = .ok (.iload 4, 2) := by decide +kernel
theorem dX10_since_45 : decode cX10_since 45 = .ok (.invokevirtual 147, 3) := by decide +kernel
theorem dX10_since_48 : decode cX10_since 48 = .ok (.aload_n 0, 1) := by decide +kernel
theorem dX10_since_49 : decode cX10_since 49 = .ok (.getfield 61, 3) := by decide +kernel
theorem dX10_since_52 : decode cX10_since 52 = .ok (.iload_n 1, 1) := by decide +kernel
theorem dX10_since_53 : decode cX10_since 53 = .ok (.invokevirtual 178, 3) := by decide +kernel
theorem dX10_since_56 : decode cX10_since 56 = .ok (.iload_n 3, 1) := by decide +kernel
theorem dX10_since_57 : decode cX10_since 57 = .ok (.if_icmp .eq 6, 3) := by decide +kernel
theorem dX10_since_60 : decode cX10_since 60 = .ok (.iload 4, 2) := by decide +kernel
theorem dX10_since_62 : decode cX10_since 62 = .ok (.ireturn, 1) := by decide +kernel
theorem dX10_since_63 : decode cX10_since 63 = .ok (.iinc 4 (-1), 3) := by decide +kernel
theorem dX10_since_66 : decode cX10_since 66 = .ok (.goto (-32), 3) := by decide +kernel
theorem dX10_since_69 : decode cX10_since 69 = .ok (.iconst (-1), 1) := by decide +kernel
theorem dX10_since_70 : decode cX10_since 70 = .ok (.ireturn, 1) := by decide +kernel
theorem dX10_all_0 : decode cX10_all 0 = .ok (.iload_n 1, 1) := by decide +kernel
theorem dX10_all_1 : decode cX10_all 1 = .ok (.tableswitch 84 0 5 #[39, 47, 55, 63, 71, 79], 39) := by decide +kernel
theorem dX10_all_40 : decode cX10_all 40 = .ok (.aload_n 0, 1) := by decide +kernel
theorem dX10_all_41 : decode cX10_all 41 = .ok (.getfield 19, 3) := by decide +kernel
theorem dX10_all_44 : decode cX10_all 44 = .ok (.getfield 195, 3) := by decide +kernel
theorem dX10_all_47 : decode cX10_all 47 = .ok (.ireturn, 1) := by decide +kernel
theorem dX10_all_48 : decode cX10_all 48 = .ok (.aload_n 0, 1) := by decide +kernel
theorem dX10_all_49 : decode cX10_all 49 = .ok (.getfield 26, 3) := by decide +kernel
theorem dX10_all_52 : decode cX10_all 52 = .ok (.getfield 198, 3) := by decide +kernel
theorem dX10_all_55 : decode cX10_all 55 = .ok (.ireturn, 1) := by decide +kernel
theorem dX10_all_56 : decode cX10_all 56 = .ok (.aload_n 0, 1) := by decide +kernel
theorem dX10_all_57 : decode cX10_all 57 = .ok (.getfield 33, 3) := by decide +kernel
theorem dX10_all_60 : decode cX10_all 60 = .ok (.getfield 119, 3) := by decide +kernel
theorem dX10_all_63 : decode cX10_all 63 = .ok (.ireturn, 1) := by decide +kernel
theorem dX10_all_64 : decode cX10_all 64 = .ok (.aload_n 0, 1) := by decide +kernel
theorem dX10_all_65 : decode cX10_all 65 = .ok (.getfield 26, 3) := by decide +kernel
theorem dX10_all_68 : decode cX10_all 68 = .ok (.getfield 201, 3) := by decide +kernel
theorem dX10_all_71 : decode cX10_all 71 = .ok (.ireturn, 1) := by decide +kernel
theorem dX10_all_72 : decode cX10_all 72 = .ok (.aload_n 0, 1) := by decide +kernel
theorem dX10_all_73 : decode cX10_all 73 = .ok (.getfield 49, 3) := by decide +kernel
theorem dX10_all_76 : decode cX10_all 76 = .ok (.getfield 134, 3) := by decide +kernel
theorem dX10_all_79 : decode cX10_all 79 = .ok (.ireturn, 1) := by decide +kernel
theorem dX10_all_80 : decode cX10_all 80 = .ok (.aload_n 0, 1) := by decide +kernel
theorem dX10_all_81 : decode cX10_all 81 = .ok (.invokevirtual 143, 3) := by decide +kernel
theorem dX10_all_84 : decode cX10_all 84 = .ok (.ireturn, 1) := by decide +kernel
theorem dX10_all_85 : decode cX10_all 85 = .ok (.iconst (-1), 1) := by decide +kernel
theorem dX10_all_86 : decode cX10_all 86 = .ok (.ireturn, 1) := by decide +kernel
theorem dX10_toldAct_0 : decode cX10_toldAct 0 = .ok (.aload_n 0, 1) := by decide +kernel
theorem dX10_toldAct_1 : decode cX10_toldAct 1 = .ok (.getfield 65, 3) := by decide +kernel
theorem dX10_toldAct_4 : decode cX10_toldAct 4 = .ok (.iconst (-1), 1) := by decide +kernel
theorem dX10_toldAct_5 : decode cX10_toldAct 5 = .ok (.if_icmp .ne 13, 3) := by decide +kernel
theorem dX10_toldAct_8 : decode cX10_toldAct 8 = .ok (.aload_n 0, 1) := by decide +kernel
theorem dX10_toldAct_9 : decode cX10_toldAct 9 = .ok (.getfield 33, 3) := by decide +kernel
theorem dX10_toldAct_12 : decode cX10_toldAct 12 = .ok (.getfield 119, 3) := by decide +kernel
theorem dX10_toldAct_15 : decode cX10_toldAct 15 = .ok (.goto 7, 3) := by decide +kernel
theorem dX10_toldAct_18 : decode cX10_toldAct 18 = .ok (.aload_n 0, 1) := by decide +kernel
theorem dX10_toldAct_19 : decode cX10_toldAct 19 = .ok (.getfield 65, 3) := by decide +kernel
theorem dX10_toldAct_22 : decode cX10_toldAct 22 = .ok (.ireturn, 1) := by decide +kernel
theorem dX10_canBe_0 : decode cX10_canBe 0 = .ok (.iload_n 1, 1) := by decide +kernel
theorem dX10_canBe_1 : decode cX10_canBe 1 = .ok (.tableswitch 122 0 9 #[55, 64, 64, 72, 72, 72, 72, 81, 122, 113], 55) := by decide +kernel
theorem dX10_canBe_56 : decode cX10_canBe 56 = .ok (.iload_n 3, 1) := by decide +kernel
theorem dX10_canBe_57 : decode cX10_canBe 57 = .ok (.iconst 0, 1) := by decide +kernel
theorem dX10_canBe_58 : decode cX10_canBe 58 = .ok (.sipush 10000, 3) := by decide +kernel
theorem dX10_canBe_61 : decode cX10_canBe 61 = .ok (.invokestatic 122, 3) := by decide +kernel
theorem dX10_canBe_64 : decode cX10_canBe 64 = .ok (.ireturn, 1) := by decide +kernel
theorem dX10_canBe_65 : decode cX10_canBe 65 = .ok (.iload_n 3, 1) := by decide +kernel
theorem dX10_canBe_66 : decode cX10_canBe 66 = .ok (.iconst 0, 1) := by decide +kernel
theorem dX10_canBe_67 : decode cX10_canBe 67 = .ok (.ldc 204, 2) := by decide +kernel
theorem dX10_canBe_69 : decode cX10_canBe 69 = .ok (.invokestatic 122, 3) := by decide +kernel
theorem dX10_canBe_72 : decode cX10_canBe 72 = .ok (.ireturn, 1) := by decide +kernel
theorem dX10_canBe_73 : decode cX10_canBe 73 = .ok (.aload_n 0, 1) := by decide +kernel
theorem dX10_canBe_74 : decode cX10_canBe 74 = .ok (.getfield 26, 3) := by decide +kernel
theorem dX10_canBe_77 : decode cX10_canBe 77 = .ok (.iload_n 2, 1) := by decide +kernel
theorem dX10_canBe_78 : decode cX10_canBe 78 = .ok (.invokevirtual 205, 3) := by decide +kernel
theorem dX10_canBe_81 : decode cX10_canBe 81 = .ok (.ireturn, 1) := by decide +kernel
theorem dX10_canBe_82 : decode cX10_canBe 82 = .ok (.aload_n 0, 1) := by decide +kernel
theorem dX10_canBe_83 : decode cX10_canBe 83 = .ok (.getfield 26, 3) := by decide +kernel
theorem dX10_canBe_86 : decode cX10_canBe 86 = .ok (.iload_n 2, 1) := by decide +kernel
theorem dX10_canBe_87 : decode cX10_canBe 87 = .ok (.invokevirtual 205, 3) := by decide +kernel
theorem dX10_canBe_90 : decode cX10_canBe 90 = .ok (.ifCond .eq 22, 3) := by decide +kernel
theorem dX10_canBe_93 : decode cX10_canBe 93 = .ok (.iload_n 3, 1) := by decide +kernel
theorem dX10_canBe_94 : decode cX10_canBe 94 = .ok (.ifCond .lt 18, 3) := by decide +kernel
theorem dX10_canBe_97 : decode cX10_canBe 97 = .ok (.iload 4, 2) := by decide +kernel
theorem dX10_canBe_99 : decode cX10_canBe 99 = .ok (.iload_n 3, 1) := by decide +kernel
theorem dX10_canBe_100 : decode cX10_canBe 100 = .ok (.ldc 204, 2) := by decide +kernel
theorem dX10_canBe_102 : decode cX10_canBe 102 = .ok (.invokestatic 122, 3) := by decide +kernel
theorem dX10_canBe_105 : decode cX10_canBe 105 = .ok (.ifCond .eq 7, 3) := by decide +kernel
theorem dX10_canBe_108 : decode cX10_canBe 108 = .ok (.iconst 1, 1) := by decide +kernel
theorem dX10_canBe_109 : decode cX10_canBe 109 = .ok (.goto 4, 3) := by decide +kernel
theorem dX10_canBe_112 : decode cX10_canBe 112 = .ok (.iconst 0, 1) := by decide +kernel
theorem dX10_canBe_113 : decode cX10_canBe 113 = .ok (.ireturn, 1) := by decide +kernel
theorem dX10_canBe_114 : decode cX10_canBe 114 = .ok (.iload_n 3, 1) := by decide +kernel
theorem dX10_canBe_115 : decode cX10_canBe 115 = .ok (.iconst 0, 1) := by decide +kernel
theorem dX10_canBe_116 : decode cX10_canBe 116 = .ok (.sipush 9999, 3) := by decide +kernel
theorem dX10_canBe_119 : decode cX10_canBe 119 = .ok (.invokestatic 122, 3) := by decide +kernel
theorem dX10_canBe_122 : decode cX10_canBe 122 = .ok (.ireturn, 1) := by decide +kernel
theorem dX10_canBe_123 : decode cX10_canBe 123 = .ok (.iload_n 1, 1) := by decide +kernel
theorem dX10_canBe_124 : decode cX10_canBe 124 = .ok (.bipush 8, 2) := by decide +kernel
theorem dX10_canBe_126 : decode cX10_canBe 126 = .ok (.if_icmp .eq 15, 3) := by decide +kernel
theorem dX10_canBe_129 : decode cX10_canBe 129 = .ok (.iload_n 1, 1) := by decide +kernel
theorem dX10_canBe_130 : decode cX10_canBe 130 = .ok (.bipush 10, 2) := by decide +kernel
theorem dX10_canBe_132 : decode cX10_canBe 132 = .ok (.if_icmp .eq 9, 3) := by decide +kernel
theorem dX10_canBe_135 : decode cX10_canBe 135 = .ok (.iload_n 1, 1) := by decide +kernel
theorem dX10_canBe_136 : decode cX10_canBe 136 = .ok (.bipush 11, 2) := by decide +kernel
theorem dX10_canBe_138 : decode cX10_canBe 138 = .ok (.if_icmp .ne 7, 3) := by decide +kernel
theorem dX10_canBe_141 : decode cX10_canBe 141 = .ok (.iconst 1, 1) := by decide +kernel
theorem dX10_canBe_142 : decode cX10_canBe 142 = .ok (.goto 4, 3) := by decide +kernel
theorem dX10_canBe_145 : decode cX10_canBe 145 = .ok (.iconst 0, 1) := by decide +kernel
theorem dX10_canBe_146 : decode cX10_canBe 146 = .ok (.ireturn, 1) := by decide +kernel
theorem dX10_isWithin_0 : decode cX10_isWithin 0 = .ok (.iload_n 0, 1) := by decide +kernel
theorem dX10_isWithin_1 : decode cX10_isWithin 1 = .ok (.iload_n 1, 1) := by decide +kernel
theorem dX10_isWithin_2 : decode cX10_isWithin 2 = .ok (.if_icmp .lt 12, 3) := by decide +kernel
theorem dX10_isWithin_5 : decode cX10_isWithin 5 = .ok (.iload_n 0, 1) := by decide +kernel
theorem dX10_isWithin_6 : decode cX10_isWithin 6 = .ok (.iload_n 2, 1) := by decide +kernel
theorem dX10_isWithin_7 : decode cX10_isWithin 7 = .ok (.if_icmp .gt 7, 3) := by decide +kernel
theorem dX10_isWithin_10 : decode cX10_isWithin 10 = .ok (.iconst 1, 1) := by decide +kernel
theorem dX10_isWithin_11 : decode cX10_isWithin 11 = .ok (.goto 4, 3) := by decide +kernel
theorem dX10_isWithin_14 : decode cX10_isWithin 14 = .ok (.iconst 0, 1) := by decide +kernel
theorem dX10_isWithin_15 : decode cX10_isWithin 15 = .ok (.ireturn, 1) := by decide +kernel
theorem dX11_init_0 : decode cX11_init 0 = .ok (.aload_n 0, 1) := by decide +kernel
theorem dX11_init_1 : decode cX11_init 1 = .ok (.invokespecial 1, 3) := by decide +kernel
theorem dX11_init_4 : decode cX11_init 4 = .ok (.aload_n 0, 1) := by decide +kernel
theorem dX11_init_5 : decode cX11_init 5 = .ok (.sipush 600, 3) := by decide +kernel
theorem dX11_init_8 : decode cX11_init 8 = .ok (.newarray .int, 2) := by decide +kernel
theorem dX11_init_10 : decode cX11_init 10 = .ok (.putfield 7, 3) := by decide +kernel
theorem dX11_init_13 : decode cX11_init 13 = .ok (.aload_n 0, 1) := by decide +kernel
theorem dX11_init_14 : decode cX11_init 14 = .ok (.iconst 0, 1) := by decide +kernel
theorem dX11_init_15 : decode cX11_init 15 = .ok (.putfield 13, 3) := by decide +kernel
theorem dX11_init_18 : decode cX11_init 18 = .ok (.aload_n 0, 1) := by decide +kernel
theorem dX11_init_19 : decode cX11_init 19 = .ok (.iconst 0, 1) := by decide +kernel
theorem dX11_init_20 : decode cX11_init 20 = .ok (.putfield 17, 3) := by decide +kernel
theorem dX11_init_23 : decode cX11_init 23 = .ok (.aload_n 0, 1) := by decide +kernel
theorem dX11_init_24 : decode cX11_init 24 = .ok (.bipush 24, 2) := by decide +kernel
theorem dX11_init_26 : decode cX11_init 26 = .ok (.newarray .int, 2) := by decide +kernel
theorem dX11_init_28 : decode cX11_init 28 = .ok (.putfield 20, 3) := by decide +kernel
theorem dX11_init_31 : decode cX11_init 31 = .ok (.aload_n 0, 1) := by decide +kernel
theorem dX11_init_32 : decode cX11_init 32 = .ok (.iconst 0, 1) := by decide +kernel
theorem dX11_init_33 : decode cX11_init 33 = .ok (.putfield 23, 3) := by decide +kernel
theorem dX11_init_36 : decode cX11_init 36 = .ok (.aload_n 0, 1) := by decide +kernel
theorem dX11_init_37 : decode cX11_init 37 = .ok (.bipush 30, 2) := by decide +kernel
theorem dX11_init_39 : decode cX11_init 39 = .ok (.newarray .int, 2) := by decide +kernel
theorem dX11_init_41 : decode cX11_init 41 = .ok (.putfield 26, 3) := by decide +kernel
theorem dX11_init_44 : decode cX11_init 44 = .ok (.aload_n 0, 1) := by decide +kernel
theorem dX11_init_45 : decode cX11_init 45 = .ok (.bipush 30, 2) := by decide +kernel
theorem dX11_init_47 : decode cX11_init 47 = .ok (.newarray .int, 2) := by decide +kernel
theorem dX11_init_49 : decode cX11_init 49 = .ok (.putfield 29, 3) := by decide +kernel
theorem dX11_init_52 : decode cX11_init 52 = .ok (.aload_n 0, 1) := by decide +kernel
theorem dX11_init_53 : decode cX11_init 53 = .ok (.bipush 32, 2) := by decide +kernel
theorem dX11_init_55 : decode cX11_init 55 = .ok (.newarray .int, 2) := by decide +kernel
theorem dX11_init_57 : decode cX11_init 57 = .ok (.putfield 32, 3) := by decide +kernel
theorem dX11_init_60 : decode cX11_init 60 = .ok (.aload_n 0, 1) := by decide +kernel
theorem dX11_init_61 : decode cX11_init 61 = .ok (.iconst 0, 1) := by decide +kernel
theorem dX11_init_62 : decode cX11_init 62 = .ok (.putfield 35, 3) := by decide +kernel
theorem dX11_init_65 : decode cX11_init 65 = .ok (.aload_n 0, 1) := by decide +kernel
theorem dX11_init_66 : decode cX11_init 66 = .ok (.sipush 500, 3) := by decide +kernel
theorem dX11_init_69 : decode cX11_init 69 = .ok (.putfield 38, 3) := by decide +kernel
theorem dX11_init_72 : decode cX11_init 72 = .ok (.aload_n 0, 1) := by decide +kernel
theorem dX11_init_73 : decode cX11_init 73 = .ok (.iconst 0, 1) := by decide +kernel
theorem dX11_init_74 : decode cX11_init 74 = .ok (.putfield 41, 3) := by decide +kernel
theorem dX11_init_77 : decode cX11_init 77 = .ok (.aload_n 0, 1) := by decide +kernel
theorem dX11_init_78 : decode cX11_init 78 = .ok (.sipush 401, 3) := by decide +kernel
theorem dX11_init_81 : decode cX11_init 81 = .ok (.newarray .int, 2) := by decide +kernel
theorem dX11_init_83 : decode cX11_init 83 = .ok (.putfield 44, 3) := by decide +kernel
theorem dX11_init_86 : decode cX11_init 86 = .ok (.aload_n 0, 1) := by decide +kernel
theorem dX11_init_87 : decode cX11_init 87 = .ok (.sipush 401, 3) := by decide +kernel
theorem dX11_init_90 : decode cX11_init 90 = .ok (.newarray .int, 2) := by decide +kernel
theorem dX11_init_92 : decode cX11_init 92 = .ok (.putfield 47, 3) := by decide +kernel
theorem dX11_init_95 : decode cX11_init 95 = .ok (.aload_n 0, 1) := by decide +kernel
theorem dX11_init_96 : decode cX11_init 96 = .ok (.sipush 401, 3) := by decide +kernel
theorem dX11_init_99 : decode cX11_init 99 = .ok (.newarray .int, 2) := by decide +kernel
theorem dX11_init_101 : decode cX11_init 101 = .ok (.putfield 50, 3) := by decide +kernel
theorem dX11_init_104 : decode cX11_init 104 = .ok (.aload_n 0, 1) := by decide +kernel
theorem dX11_init_105 : decode cX11_init 105 = .ok (.sipush 401, 3) := by decide +kernel
theorem dX11_init_108 : decode cX11_init 108 = .ok (.newarray .int, 2) := by decide +kernel
theorem dX11_init_110 : decode cX11_init 110 = .ok (.putfield 53, 3) := by decide +kernel
theorem dX11_init_113 : decode cX11_init 113 = .ok (.aload_n 0, 1) := by decide +kernel
theorem dX11_init_114 : decode cX11_init 114 = .ok (.sipush 401, 3) := by decide +kernel
theorem dX11_init_117 : decode cX11_init 117 = .ok (.newarray .int, 2) := by decide +kernel
theorem dX11_init_119 : decode cX11_init 119 = .ok (.putfield 56, 3) := by decide +kernel
theorem dX11_init_122 : decode cX11_init 122 = .ok (.aload_n 0, 1) := by decide +kernel
theorem dX11_init_123 : decode cX11_init 123 = .ok (.sipush 401, 3) := by decide +kernel
theorem dX11_init_126 : decode cX11_init 126 = .ok (.newarray .int, 2) := by decide +kernel
theorem dX11_init_128 : decode cX11_init 128 = .ok (.putfield 59, 3) := by decide +kernel
theorem dX11_init_131 : decode cX11_init 131 = .ok (.aload_n 0, 1) := by decide +kernel
theorem dX11_init_132 : decode cX11_init 132 = .ok (.iconst (-1), 1) := by decide +kernel
theorem dX11_init_133 : decode cX11_init 133 = .ok (.putfield 62, 3) := by decide +kernel
theorem dX11_init_136 : decode cX11_init 136 = .ok (.aload_n 0, 1) := by decide +kernel
theorem dX11_init_137 : decode cX11_init 137 = .ok (.bipush 18, 2) := by decide +kernel
theorem dX11_init_139 : decode cX11_init 139 = .ok (.newarray .int, 2) := by decide +kernel
theorem dX11_init_141 : decode cX11_init 141 = .ok (.putfield 65, 3) := by decide +kernel
theorem dX11_init_144 : decode cX11_init 144 = .ok (.aload_n 0, 1) := by decide +kernel
theorem dX11_init_145 : decode cX11_init 145 = .ok (.bipush 120, 2) := by decide +kernel
theorem dX11_init_147 : decode cX11_init 147 = .ok (.newarray .int, 2) := by decide +kernel
theorem dX11_init_149 : decode cX11_init 149 = .ok (.putfield 68, 3) := by decide +kernel
theorem dX11_init_152 : decode cX11_init 152 = .ok (.aload_n 0, 1) := by decide +kernel
theorem dX11_init_153 : decode cX11_init 153 = .ok (.iconst 0, 1) := by decide +kernel
theorem dX11_init_154 : decode cX11_init 154 = .ok (.putfield 71, 3) := by decide +kernel
theorem dX11_init_157 : decode cX11_init 157 = .ok (.aload_n 0, 1) := by decide +kernel
theorem dX11_init_158 : decode cX11_init 158 = .ok (.bipush 24, 2) := by decide +kernel
theorem dX11_init_160 : decode cX11_init 160 = .ok (.newarray .int, 2) := by decide +kernel
theorem dX11_init_162 : decode cX11_init 162 = .ok (.putfield 74, 3) := by decide +kernel
theorem dX11_init_165 : decode cX11_init 165 = .ok (.aload_n 0, 1) := by decide +kernel
theorem dX11_init_166 : decode cX11_init 166 = .ok (.bipush 25, 2) := by decide +kernel
theorem dX11_init_168 : decode cX11_init 168 = .ok (.newarray .int, 2) := by decide +kernel
theorem dX11_init_170 : decode cX11_init 170 = .ok (.putfield 77, 3) := by decide +kernel
theorem dX11_init_173 : decode cX11_init 173 = .ok (.aload_n 0, 1) := by decide +kernel
theorem dX11_init_174 : decode cX11_init 174 = .ok (.sipush 1300, 3) := by decide +kernel
theorem dX11_init_177 : decode cX11_init 177 = .ok (.newarray .int, 2) := by decide +kernel
theorem dX11_init_179 : decode cX11_init 179 = .ok (.putfield 80, 3) := by decide +kernel
theorem dX11_init_182 : decode cX11_init 182 = .ok (.aload_n 0, 1) := by decide +kernel
theorem dX11_init_183 : decode cX11_init 183 = .ok (.iconst (-1), 1) := by decide +kernel
theorem dX11_init_184 : decode cX11_init 184 = .ok (.putfield 83, 3) := by decide +kernel
theorem dX11_init_187 : decode cX11_init 187 = .ok (.aload_n 0, 1) := by decide +kernel
theorem dX11_init_188 : decode cX11_init 188 = .ok (.iconst 0, 1) := by decide +kernel
theorem dX11_init_189 : decode cX11_init 189 = .ok (.putfield 86, 3) := by decide +kernel
theorem dX11_init_192 : decode cX11_init 192 = .ok (.aload_n 0, 1) := by decide +kernel
theorem dX11_init_193 : decode cX11_init 193 = .ok (.iconst 0, 1) := by decide +kernel
theorem dX11_init_194 : decode cX11_init 194 = .ok (.putfield 89, 3) := by decide +kernel
theorem dX11_init_197 : decode cX11_init 197 = .ok (.aload_n 0, 1) := by decide +kernel
theorem dX11_init_198 : decode cX11_init 198 = .ok (.iconst 0, 1) := by decide +kernel
theorem dX11_init_199 : decode cX11_init 199 = .ok (.putfield 92, 3) := by decide +kernel
theorem dX11_init_202 : decode cX11_init 202 = .ok (.aload_n 0, 1) := by decide +kernel
theorem dX11_init_203 : decode cX11_init 203 = .ok (.iconst (-1), 1) := by decide +kernel
theorem dX11_init_204 : decode cX11_init 204 = .ok (.putfield 95, 3) := by decide +kernel
theorem dX11_init_207 : decode cX11_init 207 = .ok (.aload_n 0, 1) := by decide +kernel
theorem dX11_init_208 : decode cX11_init 208 = .ok (.iconst 0, 1) := by decide +kernel
theorem dX11_init_209 : decode cX11_init 209 = .ok (.putfield 98, 3) := by decide +kernel
theorem dX11_init_212 : decode cX11_init 212 = .ok (.aload_n 0, 1) := by decide +kernel
theorem dX11_init_213 : decode cX11_init 213 = .ok (.iconst 0, 1) := by decide +kernel
theorem dX11_init_214 : decode cX11_init 214 = .ok (.putfield 101, 3) := by decide +kernel
theorem dX11_init_217 : decode cX11_init 217 = .ok (.aload_n 0, 1) := by decide +kernel
theorem dX11_init_218 : decode cX11_init 218 = .ok (.iconst (-1), 1) := by decide +kernel
theorem dX11_init_219 : decode cX11_init 219 = .ok (.putfield 104, 3) := by decide +kernel
theorem dX11_init_222 : decode cX11_init 222 = .ok (.aload_n 0, 1) := by decide +kernel
theorem dX11_init_223 : decode cX11_init 223 = .ok (.bipush 25, 2) := by decide +kernel
theorem dX11_init_225 : decode cX11_init 225 = .ok (.newarray .int, 2) := by decide +kernel
theorem dX11_init_227 : decode cX11_init 227 = .ok (.putfield 107, 3) := by decide +kernel
theorem dX11_init_230 : decode cX11_init 230 = .ok (.aload_n 0, 1) := by decide +kernel
theorem dX11_init_231 : decode cX11_init 231 = .ok (.bipush 26, 2) := by decide +kernel
theorem dX11_init_233 : decode cX11_init 233 = .ok (.newarray .int, 2) := by decide +kernel
theorem dX11_init_235 : decode cX11_init 235 = .ok (.putfield 110, 3) := by decide +kernel
theorem dX11_init_238 : decode cX11_init 238 = .ok (.aload_n 0, 1) := by decide +kernel
theorem dX11_init_239 : decode cX11_init 239 = .ok (.sipush 1300, 3) := by decide +kernel
theorem dX11_init_242 : decode cX11_init 242 = .ok (.newarray .int, 2) := by decide +kernel
theorem dX11_init_244 : decode cX11_init 244 = .ok (.putfield 113, 3) := by decide +kernel
theorem dX11_init_247 : decode cX11_init 247 = .ok (.aload_n 0, 1) := by decide +kernel
theorem dX11_init_248 : decode cX11_init 248 = .ok (.sipush 250, 3) := by decide +kernel
theorem dX11_init_251 : decode cX11_init 251 = .ok (.newarray .int, 2) := by decide +kernel
theorem dX11_init_253 : decode cX11_init 253 = .ok (.putfield 116, 3) := by decide +kernel
theorem dX11_init_256 : decode cX11_init 256 = .ok (.aload_n 0, 1) := by decide +kernel
theorem dX11_init_257 : decode cX11_init 257 = .ok (.bipush 25, 2) := by decide +kernel
theorem dX11_init_259 : decode cX11_init 259 = .ok (.newarray .int, 2) := by decide +kernel
theorem dX11_init_261 : decode cX11_init 261 = .ok (.putfield 119, 3) := by decide +kernel
theorem dX11_init_264 : decode cX11_init 264 = .ok (.aload_n 0, 1) := by decide +kernel
theorem dX11_init_265 : decode cX11_init 265 = .ok (.bipush 40, 2) := by decide +kernel
theorem dX11_init_267 : decode cX11_init 267 = .ok (.newarray .int, 2) := by decide +kernel
theorem dX11_init_269 : decode cX11_init 269 = .ok (.putfield 122, 3) := by decide +kernel
theorem dX11_init_272 : decode cX11_init 272 = .ok (.aload_n 0, 1) := by decide +kernel
theorem dX11_init_273 : decode cX11_init 273 = .ok (.bipush 40, 2) := by decide +kernel
theorem dX11_init_275 : decode cX11_init 275 = .ok (.newarray .boolean, 2) := by decide +kernel
theorem dX11_init_277 : decode cX11_init 277 = .ok (.putfield 125, 3) := by decide +kernel
theorem dX11_init_280 : decode cX11_init 280 = .ok (.aload_n 0, 1) := by decide +kernel
theorem dX11_init_281 : decode cX11_init 281 = .ok (.iconst 0, 1) := by decide +kernel
theorem dX11_init_282 : decode cX11_init 282 = .ok (.putfield 129, 3) := by decide +kernel
theorem dX11_init_285 : decode cX11_init 285 = .ok (.aload_n 0, 1) := by decide +kernel
theorem dX11_init_286 : decode cX11_init 286 = .ok (.iconst 0, 1) := by decide +kernel
theorem dX11_init_287 : decode cX11_init 287 = .ok (.putfield 132, 3) := by decide +kernel
theorem dX11_init_290 : decode cX11_init 290 = .ok (.aload_n 0, 1) := by decide +kernel
theorem dX11_init_291 : decode cX11_init 291 = .ok (.sipush 310, 3) := by decide +kernel
theorem dX11_init_294 : decode cX11_init 294 = .ok (.newarray .long, 2) := by decide +kernel
theorem dX11_init_296 : decode cX11_init 296 = .ok (.putfield 135, 3) := by decide +kernel
theorem dX11_init_299 : decode cX11_init 299 = .ok (.aload_n 0, 1) := by decide +kernel
theorem dX11_init_300 : decode cX11_init 300 = .ok (.sipush 576, 3) := by decide +kernel
theorem dX11_init_303 : decode cX11_init 303 = .ok (.newarray .long, 2) := by decide +kernel
theorem dX11_init_305 : decode cX11_init 305 = .ok (.putfield 139, 3) := by decide +kernel
theorem dX11_init_308 : decode cX11_init 308 = .ok (.aload_n 0, 1) := by decide +kernel
theorem dX11_init_309 : decode cX11_init 309 = .ok (.bipush 24, 2) := by decide +kernel
theorem dX11_init_311 : decode cX11_init 311 = .ok (.newarray .boolean, 2) := by decide +kernel
theorem dX11_init_313 : decode cX11_init 313 = .ok (.putfield 142, 3) := by decide +kernel
theorem dX11_init_316 : decode cX11_init 316 = .ok (.return_, 1) := by decide +kernel
theorem dX11_is_0 : decode cX11_is 0 = .ok (.iload_n 0, 1) := by decide +kernel
theorem dX11_is_1 : decode cX11_is 1 = .ok (.iload_n 1, 1) := by decide +kernel
theorem dX11_is_2 : decode cX11_is 2 = .ok (.if_icmp .lt 12, 3) := by decide +kernel
theorem dX11_is_5 : decode cX11_is 5 = .ok (.iload_n 0, 1) := by decide +kernel
theorem dX11_is_6 : decode cX11_is 6 = .ok (.iload_n 2, 1) := by decide +kernel
theorem dX11_is_7 : decode cX11_is 7 = .ok (.if_icmp .gt 7, 3) := by decide +kernel
theorem dX11_is_10 : decode cX11_is 10 = .ok (.iconst 1, 1) := by decide +kernel
theorem dX11_is_11 : decode cX11_is 11 = .ok (.goto 4, 3) := by decide +kernel
theorem dX11_is_14 : decode cX11_is 14 = .ok (.iconst 0, 1) := by decide +kernel
theorem dX11_is_15 : decode cX11_is 15 = .ok (.ireturn, 1) := by decide +kernel
theorem dX11_put_0 : decode cX11_put 0 = .ok (.bipush 24, 2) := by decide +kernel
theorem dX11_put_2 : decode cX11_put 2 = .ok (.istore_n 2, 1) := by decide +kernel
theorem dX11_put_3 : decode cX11_put 3 = .ok (.iload_n 2, 1) := by decide +kernel
theorem dX11_put_4 : decode cX11_put 4 = .ok (.ifCond .lt 35, 3) := by decide +kernel
theorem dX11_put_7 : decode cX11_put 7 = .ok (.aload_n 0, 1) := by decide +kernel
theorem dX11_put_8 : decode cX11_put 8 = .ok (.getfield 7, 3) := by decide +kernel
theorem dX11_put_11 : decode cX11_put 11 = .ok (.aload_n 0, 1) := by decide +kernel
theorem dX11_put_12 : decode cX11_put 12 = .ok (.getfield 13, 3) := by decide +kernel
theorem dX11_put_15 : decode cX11_put 15 = .ok (.iload_n 1, 1) := by decide +kernel
theorem dX11_put_16 : decode cX11_put 16 = .ok (.iload_n 2, 1) := by decide +kernel
theorem dX11_put_17 : decode cX11_put 17 = .ok (.ishr, 1) := by decide +kernel
theorem dX11_put_18 : decode cX11_put 18 = .ok (.sipush 255, 3) := by decide +kernel
theorem dX11_put_21 : decode cX11_put 21 = .ok (.iand, 1) := by decide +kernel
theorem dX11_put_22 : decode cX11_put 22 = .ok (.iastore, 1) := by decide +kernel
theorem dX11_put_23 : decode cX11_put 23 = .ok (.aload_n 0, 1) := by decide +kernel
theorem dX11_put_24 : decode cX11_put 24 = .ok (.dup, 1) := by decide +kernel
theorem dX11_put_25 : decode cX11_put 25 = .ok (.getfield 13, 3) := by decide +kernel
theorem dX11_put_28 : decode cX11_put 28 = .ok (.iconst 1, 1) := by decide +kernel
theorem dX11_put_29 : decode cX11_put 29 = .ok (.iadd, 1) := by decide +kernel
theorem dX11_put_30 : decode cX11_put 30 = .ok (.putfield 13, 3) := by decide +kernel
theorem dX11_put_33 : decode cX11_put 33 = .ok (.iinc 2 (-8), 3) := by decide +kernel
theorem dX11_put_36 : decode cX11_put 36 = .ok (.goto (-33), 3) := by decide +kernel
theorem dX11_put_39 : decode cX11_put 39 = .ok (.return_, 1) := by decide +kernel
theorem dX11_feed_0 : decode cX11_feed 0 = .ok (.aload_n 0, 1) := by decide +kernel
theorem dX11_feed_1 : decode cX11_feed 1 = .ok (.getfield 13, 3) := by decide +kernel
theorem dX11_feed_4 : decode cX11_feed 4 = .ok (.bipush 20, 2) := by decide +kernel
theorem dX11_feed_6 : decode cX11_feed 6 = .ok (.iadd, 1) := by decide +kernel
theorem dX11_feed_7 : decode cX11_feed 7 = .ok (.sipush 600, 3) := by decide +kernel
theorem dX11_feed_10 : decode cX11_feed 10 = .ok (.if_icmp .le 5, 3) := by decide +kernel
theorem dX11_feed_13 : decode cX11_feed 13 = .ok (.iconst (-1), 1) := by decide +kernel
theorem dX11_feed_14 : decode cX11_feed 14 = .ok (.ireturn, 1) := by decide +kernel
theorem dX11_feed_15 : decode cX11_feed 15 = .ok (.aload_n 0, 1) := by decide +kernel
theorem dX11_feed_16 : decode cX11_feed 16 = .ok (.iload_n 1, 1) := by decide +kernel
theorem dX11_feed_17 : decode cX11_feed 17 = .ok (.invokevirtual 145, 3) := by decide +kernel
theorem dX11_feed_20 : decode cX11_feed 20 = .ok (.aload_n 0, 1) := by decide +kernel
theorem dX11_feed_21 : decode cX11_feed 21 = .ok (.iload_n 2, 1) := by decide +kernel
theorem dX11_feed_22 : decode cX11_feed 22 = .ok (.invokevirtual 145, 3) := by decide +kernel
theorem dX11_feed_25 : decode cX11_feed 25 = .ok (.aload_n 0, 1) := by decide +kernel
theorem dX11_feed_26 : decode cX11_feed 26 = .ok (.iload_n 3, 1) := by decide +kernel
theorem dX11_feed_27 : decode cX11_feed 27 = .ok (.invokevirtual 145, 3) := by decide +kernel
theorem dX11_feed_30 : decode cX11_feed 30 = .ok (.aload_n 0, 1) := by decide +kernel
theorem dX11_feed_31 : decode cX11_feed 31 = .ok (.iload 4, 2) := by decide +kernel
theorem dX11_feed_33 : decode cX11_feed 33 = .ok (.invokevirtual 145, 3) := by decide +kernel
theorem dX11_feed_36 : decode cX11_feed 36 = .ok (.aload_n 0, 1) := by decide +kernel
theorem dX11_feed_37 : decode cX11_feed 37 = .ok (.iload 5, 2) := by decide +kernel
theorem dX11_feed_39 : decode cX11_feed 39 = .ok (.invokevirtual 145, 3) := by decide +kernel
theorem dX11_feed_42 : decode cX11_feed 42 = .ok (.aload_n 0, 1) := by decide +kernel
theorem dX11_feed_43 : decode cX11_feed 43 = .ok (.getfield 13, 3) := by decide +kernel
theorem dX11_feed_46 : decode cX11_feed 46 = .ok (.ireturn, 1) := by decide +kernel
theorem dX11_end_0 : decode cX11_end 0 = .ok (.iload_n 1, 1) := by decide +kernel
theorem dX11_end_1 : decode cX11_end 1 = .ok (.ifCond .lt 11, 3) := by decide +kernel
theorem dX11_end_4 : decode cX11_end 4 = .ok (.iload_n 1, 1) := by decide +kernel
theorem dX11_end_5 : decode cX11_end 5 = .ok (.aload_n 0, 1) := by decide +kernel
theorem dX11_end_6 : decode cX11_end 6 = .ok (.getfield 13, 3) := by decide +kernel
theorem dX11_end_9 : decode cX11_end 9 = .ok (.if_icmp .le 5, 3) := by decide +kernel
theorem dX11_end_12 : decode cX11_end 12 = .ok (.iconst 0, 1) := by decide +kernel
theorem dX11_end_13 : decode cX11_end 13 = .ok (.ireturn, 1) := by decide +kernel
theorem dX11_end_14 : decode cX11_end 14 = .ok (.aload_n 0, 1) := by decide +kernel
theorem dX11_end_15 : decode cX11_end 15 = .ok (.iload_n 1, 1) := by decide +kernel
theorem dX11_end_16 : decode cX11_end 16 = .ok (.putfield 13, 3) := by decide +kernel
theorem dX11_end_19 : decode cX11_end 19 = .ok (.iconst 1, 1) := by decide +kernel
theorem dX11_end_20 : decode cX11_end 20 = .ok (.ireturn, 1) := by decide +kernel
theorem dX11_rider_0 : decode cX11_rider 0 = .ok (.aload_n 0, 1) := by decide +kernel
theorem dX11_rider_1 : decode cX11_rider 1 = .ok (.getfield 17, 3) := by decide +kernel
theorem dX11_rider_4 : decode cX11_rider 4 = .ok (.bipush 24, 2) := by decide +kernel
theorem dX11_rider_6 : decode cX11_rider 6 = .ok (.if_icmp .eq 12, 3) := by decide +kernel
theorem dX11_rider_9 : decode cX11_rider 9 = .ok (.iload_n 1, 1) := by decide +kernel
theorem dX11_rider_10 : decode cX11_rider 10 = .ok (.iconst (-1), 1) := by decide +kernel
theorem dX11_rider_11 : decode cX11_rider 11 = .ok (.iconst 5, 1) := by decide +kernel
theorem dX11_rider_12 : decode cX11_rider 12 = .ok (.invokestatic 149, 3) := by decide +kernel
theorem dX11_rider_15 : decode cX11_rider 15 = .ok (.ifCond .ne 5, 3) := by decide +kernel
theorem dX11_rider_18 : decode cX11_rider 18 = .ok (.iconst (-1), 1) := by decide +kernel
theorem dX11_rider_19 : decode cX11_rider 19 = .ok (.ireturn, 1) := by decide +kernel
theorem dX11_rider_20 : decode cX11_rider 20 = .ok (.iconst 0, 1) := by decide +kernel
theorem dX11_rider_21 : decode cX11_rider 21 = .ok (.istore_n 2, 1) := by decide +kernel
theorem dX11_rider_22 : decode cX11_rider 22 = .ok (.iconst 0, 1) := by decide +kernel
theorem dX11_rider_23 : decode cX11_rider 23 = .ok (.istore_n 3, 1) := by decide +kernel
theorem dX11_rider_24 : decode cX11_rider 24 = .ok (.iload_n 3, 1) := by decide +kernel
theorem dX11_rider_25 : decode cX11_rider 25 = .ok (.aload_n 0, 1) := by decide +kernel
theorem dX11_rider_26 : decode cX11_rider 26 = .ok (.getfield 17, 3) := by decide +kernel
theorem dX11_rider_29 : decode cX11_rider 29 = .ok (.if_icmp .ge 32, 3) := by decide +kernel
theorem dX11_rider_32 : decode cX11_rider 32 = .ok (.iload_n 2, 1) := by decide +kernel
theorem dX11_rider_33 : decode cX11_rider 33 = .ok (.iload_n 1, 1) := by decide +kernel
theorem dX11_rider_34 : decode cX11_rider 34 = .ok (.iconst (-1), 1) := by decide +kernel
theorem dX11_rider_35 : decode cX11_rider 35 = .ok (.if_icmp .eq 17, 3) := by decide +kernel
theorem dX11_rider_38 : decode cX11_rider 38 = .ok (.aload_n 0, 1) := by decide +kernel
theorem dX11_rider_39 : decode cX11_rider 39 = .ok (.getfield 20, 3) := by decide +kernel
theorem dX11_rider_42 : decode cX11_rider 42 = .ok (.iload_n 3, 1) := by decide +kernel
theorem dX11_rider_43 : decode cX11_rider 43 = .ok (.iaload, 1) := by decide +kernel
theorem dX11_rider_44 : decode cX11_rider 44 = .ok (.iload_n 1, 1) := by decide +kernel
theorem dX11_rider_45 : decode cX11_rider 45 = .ok (.if_icmp .ne 7, 3) := by decide +kernel
theorem dX11_rider_48 : decode cX11_rider 48 = .ok (.iconst 1, 1) := by decide +kernel
theorem dX11_rider_49 : decode cX11_rider 49 = .ok (.goto 4, 3) := by decide +kernel
theorem dX11_rider_52 : decode cX11_rider 52 = .ok (.iconst 0, 1) := by decide +kernel
theorem dX11_rider_53 : decode cX11_rider 53 = .ok (.iadd, 1) := by decide +kernel
theorem dX11_rider_54 : decode cX11_rider 54 = .ok (.istore_n 2, 1) := by decide +kernel
theorem dX11_rider_55 : decode cX11_rider 55 = .ok (.iinc 3 1, 3) := by decide +kernel
theorem dX11_rider_58 : decode cX11_rider 58 = .ok (.goto (-34), 3) := by decide +kernel
theorem dX11_rider_61 : decode cX11_rider 61 = .ok (.iload_n 2, 1) := by decide +kernel
theorem dX11_rider_62 : decode cX11_rider 62 = .ok (.iconst 4, 1) := by decide +kernel
theorem dX11_rider_63 : decode cX11_rider 63 = .ok (.if_icmp .ne 5, 3) := by decide +kernel
theorem dX11_rider_66 : decode cX11_rider 66 = .ok (.iconst (-1), 1) := by decide +kernel
theorem dX11_rider_67 : decode cX11_rider 67 = .ok (.ireturn, 1) := by decide +kernel
theorem dX11_rider_68 : decode cX11_rider 68 = .ok (.aload_n 0, 1) := by decide +kernel
theorem dX11_rider_69 : decode cX11_rider 69 = .ok (.getfield 20, 3) := by decide +kernel
theorem dX11_rider_72 : decode cX11_rider 72 = .ok (.aload_n 0, 1) := by decide +kernel
theorem dX11_rider_73 : decode cX11_rider 73 = .ok (.getfield 17, 3) := by decide +kernel
theorem dX11_rider_76 : decode cX11_rider 76 = .ok (.iload_n 1, 1) := by decide +kernel
theorem dX11_rider_77 : decode cX11_rider 77 = .ok (.iastore, 1) := by decide +kernel
theorem dX11_rider_78 : decode cX11_rider 78 = .ok (.aload_n 0, 1) := by decide +kernel
theorem dX11_rider_79 : decode cX11_rider 79 = .ok (.dup, 1) := by decide +kernel
theorem dX11_rider_80 : decode cX11_rider 80 = .ok (.getfield 17, 3) := by decide +kernel
theorem dX11_rider_83 : decode cX11_rider 83 = .ok (.iconst 1, 1) := by decide +kernel
theorem dX11_rider_84 : decode cX11_rider 84 = .ok (.iadd, 1) := by decide +kernel
theorem dX11_rider_85 : decode cX11_rider 85 = .ok (.putfield 17, 3) := by decide +kernel
theorem dX11_rider_88 : decode cX11_rider 88 = .ok (.aload_n 0, 1) := by decide +kernel
theorem dX11_rider_89 : decode cX11_rider 89 = .ok (.getfield 17, 3) := by decide +kernel
theorem dX11_rider_92 : decode cX11_rider 92 = .ok (.iconst 1, 1) := by decide +kernel
theorem dX11_rider_93 : decode cX11_rider 93 = .ok (.isub, 1) := by decide +kernel
theorem dX11_rider_94 : decode cX11_rider 94 = .ok (.ireturn, 1) := by decide +kernel
theorem dX11_fence_0 : decode cX11_fence 0 = .ok (.iload_n 1, 1) := by decide +kernel
theorem dX11_fence_1 : decode cX11_fence 1 = .ok (.iconst 0, 1) := by decide +kernel
theorem dX11_fence_2 : decode cX11_fence 2 = .ok (.sipush 2000, 3) := by decide +kernel
theorem dX11_fence_5 : decode cX11_fence 5 = .ok (.invokestatic 149, 3) := by decide +kernel
theorem dX11_fence_8 : decode cX11_fence 8 = .ok (.ifCond .eq 12, 3) := by decide +kernel
theorem dX11_fence_11 : decode cX11_fence 11 = .ok (.aload_n 0, 1) := by decide +kernel
theorem dX11_fence_12 : decode cX11_fence 12 = .ok (.getfield 23, 3) := by decide +kernel
theorem dX11_fence_15 : decode cX11_fence 15 = .ok (.bipush 30, 2) := by decide +kernel
theorem dX11_fence_17 : decode cX11_fence 17 = .ok (.if_icmp .ne 5, 3) := by decide +kernel
theorem dX11_fence_20 : decode cX11_fence 20 = .ok (.iconst (-1), 1) := by decide +kernel
theorem dX11_fence_21 : decode cX11_fence 21 = .ok (.ireturn, 1) := by decide +kernel
theorem dX11_fence_22 : decode cX11_fence 22 = .ok (.aload_n 0, 1) := by decide +kernel
theorem dX11_fence_23 : decode cX11_fence 23 = .ok (.getfield 26, 3) := by decide +kernel
theorem dX11_fence_26 : decode cX11_fence 26 = .ok (.aload_n 0, 1) := by decide +kernel
theorem dX11_fence_27 : decode cX11_fence 27 = .ok (.getfield 23, 3) := by decide +kernel
theorem dX11_fence_30 : decode cX11_fence 30 = .ok (.iload_n 1, 1) := by decide +kernel
theorem dX11_fence_31 : decode cX11_fence 31 = .ok (.iastore, 1) := by decide +kernel
theorem dX11_fence_32 : decode cX11_fence 32 = .ok (.aload_n 0, 1) := by decide +kernel
theorem dX11_fence_33 : decode cX11_fence 33 = .ok (.getfield 29, 3) := by decide +kernel
theorem dX11_fence_36 : decode cX11_fence 36 = .ok (.aload_n 0, 1) := by decide +kernel
theorem dX11_fence_37 : decode cX11_fence 37 = .ok (.getfield 23, 3) := by decide +kernel
theorem dX11_fence_40 : decode cX11_fence 40 = .ok (.iconst (-1), 1) := by decide +kernel
theorem dX11_fence_41 : decode cX11_fence 41 = .ok (.iastore, 1) := by decide +kernel
theorem dX11_fence_42 : decode cX11_fence 42 = .ok (.aload_n 0, 1) := by decide +kernel
theorem dX11_fence_43 : decode cX11_fence 43 = .ok (.dup, 1) := by decide +kernel
theorem dX11_fence_44 : decode cX11_fence 44 = .ok (.getfield 23, 3) := by decide +kernel
theorem dX11_fence_47 : decode cX11_fence 47 = .ok (.iconst 1, 1) := by decide +kernel
theorem dX11_fence_48 : decode cX11_fence 48 = .ok (.iadd, 1) := by decide +kernel
theorem dX11_fence_49 : decode cX11_fence 49 = .ok (.putfield 23, 3) := by decide +kernel
theorem dX11_fence_52 : decode cX11_fence 52 = .ok (.aload_n 0, 1) := by decide +kernel
theorem dX11_fence_53 : decode cX11_fence 53 = .ok (.getfield 23, 3) := by decide +kernel
theorem dX11_fence_56 : decode cX11_fence 56 = .ok (.ireturn, 1) := by decide +kernel
theorem dX11_optimum_0 : decode cX11_optimum 0 = .ok (.aload_n 0, 1) := by decide +kernel
theorem dX11_optimum_1 : decode cX11_optimum 1 = .ok (.getfield 35, 3) := by decide +kernel
theorem dX11_optimum_4 : decode cX11_optimum 4 = .ok (.istore_n 1, 1) := by decide +kernel
theorem dX11_optimum_5 : decode cX11_optimum 5 = .ok (.iconst 0, 1) := by decide +kernel
theorem dX11_optimum_6 : decode cX11_optimum 6 = .ok (.istore_n 2, 1) := by decide +kernel
theorem dX11_optimum_7 : decode cX11_optimum 7 = .ok (.iload_n 2, 1) := by decide +kernel
theorem dX11_optimum_8 : decode cX11_optimum 8 = .ok (.aload_n 0, 1) := by decide +kernel
theorem dX11_optimum_9 : decode cX11_optimum 9 = .ok (.getfield 23, 3) := by decide +kernel
theorem dX11_optimum_12 : decode cX11_optimum 12 = .ok (.if_icmp .ge 18, 3) := by decide +kernel
theorem dX11_optimum_15 : decode cX11_optimum 15 = .ok (.iload_n 1, 1) := by decide +kernel
theorem dX11_optimum_16 : decode cX11_optimum 16 = .ok (.aload_n 0, 1) := by decide +kernel
theorem dX11_optimum_17 : decode cX11_optimum 17 = .ok (.getfield 26, 3) := by decide +kernel
theorem dX11_optimum_20 : decode cX11_optimum 20 = .ok (.iload_n 2, 1) := by decide +kernel
theorem dX11_optimum_21 : decode cX11_optimum 21 = .ok (.iaload, 1) := by decide +kernel
theorem dX11_optimum_22 : decode cX11_optimum 22 = .ok (.iadd, 1) := by decide +kernel
theorem dX11_optimum_23 : decode cX11_optimum 23 = .ok (.istore_n 1, 1) := by decide +kernel
theorem dX11_optimum_24 : decode cX11_optimum 24 = .ok (.iinc 2 1, 3) := by decide +kernel
theorem dX11_optimum_27 : decode cX11_optimum 27 = .ok (.goto (-20), 3) := by decide +kernel
theorem dX11_optimum_30 : decode cX11_optimum 30 = .ok (.bipush 60, 2) := by decide +kernel
theorem dX11_optimum_32 : decode cX11_optimum 32 = .ok (.iload_n 1, 1) := by decide +kernel
theorem dX11_optimum_33 : decode cX11_optimum 33 = .ok (.imul, 1) := by decide +kernel
theorem dX11_optimum_34 : decode cX11_optimum 34 = .ok (.aload_n 0, 1) := by decide +kernel
theorem dX11_optimum_35 : decode cX11_optimum 35 = .ok (.getfield 38, 3) := by decide +kernel
theorem dX11_optimum_38 : decode cX11_optimum 38 = .ok (.iadd, 1) := by decide +kernel
theorem dX11_optimum_39 : decode cX11_optimum 39 = .ok (.iconst 1, 1) := by decide +kernel
theorem dX11_optimum_40 : decode cX11_optimum 40 = .ok (.isub, 1) := by decide +kernel
theorem dX11_optimum_41 : decode cX11_optimum 41 = .ok (.aload_n 0, 1) := by decide +kernel
theorem dX11_optimum_42 : decode cX11_optimum 42 = .ok (.getfield 38, 3) := by decide +kernel
theorem dX11_optimum_45 : decode cX11_optimum 45 = .ok (.idiv, 1) := by decide +kernel
theorem dX11_optimum_46 : decode cX11_optimum 46 = .ok (.ireturn, 1) := by decide +kernel
theorem dX11_course_0 : decode cX11_course 0 = .ok (.iload_n 1, 1) := by decide +kernel
theorem dX11_course_1 : decode cX11_course 1 = .ok (.iconst 0, 1) := by decide +kernel
theorem dX11_course_2 : decode cX11_course 2 = .ok (.sipush 2000, 3) := by decide +kernel
theorem dX11_course_5 : decode cX11_course 5 = .ok (.invokestatic 149, 3) := by decide +kernel
theorem dX11_course_8 : decode cX11_course 8 = .ok (.ifCond .eq 15, 3) := by decide +kernel
theorem dX11_course_11 : decode cX11_course 11 = .ok (.iload_n 2, 1) := by decide +kernel
theorem dX11_course_12 : decode cX11_course 12 = .ok (.bipush 100, 2) := by decide +kernel
theorem dX11_course_14 : decode cX11_course 14 = .ok (.sipush 700, 3) := by decide +kernel
theorem dX11_course_17 : decode cX11_course 17 = .ok (.invokestatic 149, 3) := by decide +kernel
theorem dX11_course_20 : decode cX11_course 20 = .ok (.ifCond .ne 5, 3) := by decide +kernel
theorem dX11_course_23 : decode cX11_course 23 = .ok (.iconst (-1), 1) := by decide +kernel
theorem dX11_course_24 : decode cX11_course 24 = .ok (.ireturn, 1) := by decide +kernel
theorem dX11_course_25 : decode cX11_course 25 = .ok (.aload_n 0, 1) := by decide +kernel
theorem dX11_course_26 : decode cX11_course 26 = .ok (.iload_n 1, 1) := by decide +kernel
theorem dX11_course_27 : decode cX11_course 27 = .ok (.putfield 35, 3) := by decide +kernel
theorem dX11_course_30 : decode cX11_course 30 = .ok (.aload_n 0, 1) := by decide +kernel
theorem dX11_course_31 : decode cX11_course 31 = .ok (.iload_n 2, 1) := by decide +kernel
theorem dX11_course_32 : decode cX11_course 32 = .ok (.putfield 38, 3) := by decide +kernel
theorem dX11_course_35 : decode cX11_course 35 = .ok (.aload_n 0, 1) := by decide +kernel
theorem dX11_course_36 : decode cX11_course 36 = .ok (.invokevirtual 153, 3) := by decide +kernel
theorem dX11_course_39 : decode cX11_course 39 = .ok (.ireturn, 1) := by decide +kernel
theorem dX11_clock_0 : decode cX11_clock 0 = .ok (.iload_n 1, 1) := by decide +kernel
theorem dX11_clock_1 : decode cX11_clock 1 = .ok (.ifCond .lt 26, 3) := by decide +kernel
theorem dX11_clock_4 : decode cX11_clock 4 = .ok (.iload_n 1, 1) := by decide +kernel
theorem dX11_clock_5 : decode cX11_clock 5 = .ok (.aload_n 0, 1) := by decide +kernel
theorem dX11_clock_6 : decode cX11_clock 6 = .ok (.getfield 23, 3) := by decide +kernel
theorem dX11_clock_9 : decode cX11_clock 9 = .ok (.iconst 1, 1) := by decide +kernel
theorem dX11_clock_10 : decode cX11_clock 10 = .ok (.iadd, 1) := by decide +kernel
theorem dX11_clock_11 : decode cX11_clock 11 = .ok (.if_icmp .gt 16, 3) := by decide +kernel
theorem dX11_clock_14 : decode cX11_clock 14 = .ok (.iload_n 2, 1) := by decide +kernel
theorem dX11_clock_15 : decode cX11_clock 15 = .ok (.sipush (-600), 3) := by decide +kernel
theorem dX11_clock_18 : decode cX11_clock 18 = .ok (.sipush 600, 3) := by decide +kernel
theorem dX11_clock_21 : decode cX11_clock 21 = .ok (.invokestatic 149, 3) := by decide +kernel
theorem dX11_clock_24 : decode cX11_clock 24 = .ok (.ifCond .ne 5, 3) := by decide +kernel
theorem dX11_clock_27 : decode cX11_clock 27 = .ok (.iconst 0, 1) := by decide +kernel
theorem dX11_clock_28 : decode cX11_clock 28 = .ok (.ireturn, 1) := by decide +kernel
theorem dX11_clock_29 : decode cX11_clock 29 = .ok (.aload_n 0, 1) := by decide +kernel
theorem dX11_clock_30 : decode cX11_clock 30 = .ok (.getfield 32, 3) := by decide +kernel
theorem dX11_clock_33 : decode cX11_clock 33 = .ok (.iload_n 1, 1) := by decide +kernel
theorem dX11_clock_34 : decode cX11_clock 34 = .ok (.iload_n 2, 1) := by decide +kernel
theorem dX11_clock_35 : decode cX11_clock 35 = .ok (.iastore, 1) := by decide +kernel
theorem dX11_clock_36 : decode cX11_clock 36 = .ok (.iconst 1, 1) := by decide +kernel
theorem dX11_clock_37 : decode cX11_clock 37 = .ok (.ireturn, 1) := by decide +kernel
theorem dX11_out_0 : decode cX11_out 0 = .ok (.iload_n 1, 1) := by decide +kernel
theorem dX11_out_1 : decode cX11_out 1 = .ok (.ifCond .lt 21, 3) := by decide +kernel
theorem dX11_out_4 : decode cX11_out 4 = .ok (.iload_n 1, 1) := by decide +kernel
theorem dX11_out_5 : decode cX11_out 5 = .ok (.aload_n 0, 1) := by decide +kernel
theorem dX11_out_6 : decode cX11_out 6 = .ok (.getfield 23, 3) := by decide +kernel
theorem dX11_out_9 : decode cX11_out 9 = .ok (.if_icmp .ge 13, 3) := by decide +kernel
theorem dX11_out_12 : decode cX11_out 12 = .ok (.iload_n 2, 1) := by decide +kernel
theorem dX11_out_13 : decode cX11_out 13 = .ok (.iconst (-1), 1) := by decide +kernel
theorem dX11_out_14 : decode cX11_out 14 = .ok (.ldc 157, 2) := by decide +kernel
theorem dX11_out_16 : decode cX11_out 16 = .ok (.invokestatic 149, 3) := by decide +kernel
theorem dX11_out_19 : decode cX11_out 19 = .ok (.ifCond .ne 5, 3) := by decide +kernel
theorem dX11_out_22 : decode cX11_out 22 = .ok (.iconst 0, 1) := by decide +kernel
theorem dX11_out_23 : decode cX11_out 23 = .ok (.ireturn, 1) := by decide +kernel
theorem dX11_out_24 : decode cX11_out 24 = .ok (.aload_n 0, 1) := by decide +kernel
theorem dX11_out_25 : decode cX11_out 25 = .ok (.getfield 29, 3) := by decide +kernel
theorem dX11_out_28 : decode cX11_out 28 = .ok (.iload_n 1, 1) := by decide +kernel
theorem dX11_out_29 : decode cX11_out 29 = .ok (.iload_n 2, 1) := by decide +kernel
theorem dX11_out_30 : decode cX11_out 30 = .ok (.iastore, 1) := by decide +kernel
theorem dX11_out_31 : decode cX11_out 31 = .ok (.iconst 1, 1) := by decide +kernel
theorem dX11_out_32 : decode cX11_out 32 = .ok (.ireturn, 1) := by decide +kernel
theorem dX11_isSecond_0 : decode cX11_isSecond 0 = .ok (.iload_n 0, 1) := by decide +kernel
theorem dX11_isSecond_1 : decode cX11_isSecond 1 = .ok (.ifCond .lt 13, 3) := by decide +kernel
theorem dX11_isSecond_4 : decode cX11_isSecond 4 = .ok (.iload_n 0, 1) := by decide +kernel
theorem dX11_isSecond_5 : decode cX11_isSecond 5 = .ok (.ldc 158, 2) := by decide +kernel
theorem dX11_isSecond_7 : decode cX11_isSecond 7 = .ok (.if_icmp .ge 7, 3) := by decide +kernel
theorem dX11_isSecond_10 : decode cX11_isSecond 10 = .ok (.iconst 1, 1) := by decide +kernel
theorem dX11_isSecond_11 : decode cX11_isSecond 11 = .ok (.goto 4, 3) := by decide +kernel
theorem dX11_isSecond_14 : decode cX11_isSecond 14 = .ok (.iconst 0, 1) := by decide +kernel
theorem dX11_isSecond_15 : decode cX11_isSecond 15 = .ok (.ireturn, 1) := by decide +kernel
theorem dX11_may_0 : decode cX11_may 0 = .ok (.iload_n 2, 1) := by decide +kernel
theorem dX11_may_1 : decode cX11_may 1 = .ok (.ifCond .lt 15, 3) := by decide +kernel
theorem dX11_may_4 : decode cX11_may 4 = .ok (.iload_n 2, 1) := by decide +kernel
theorem dX11_may_5 : decode cX11_may 5 = .ok (.aload_n 0, 1) := by decide +kernel
theorem dX11_may_6 : decode cX11_may 6 = .ok (.getfield 23, 3) := by decide +kernel
theorem dX11_may_9 : decode cX11_may 9 = .ok (.if_icmp .ge 7, 3) := by decide +kernel
theorem dX11_may_12 : decode cX11_may 12 = .ok (.iconst 1, 1) := by decide +kernel
theorem dX11_may_13 : decode cX11_may 13 = .ok (.goto 4, 3) := by decide +kernel
theorem dX11_may_16 : decode cX11_may 16 = .ok (.iconst 0, 1) := by decide +kernel
theorem dX11_may_17 : decode cX11_may 17 = .ok (.istore 5, 2) := by decide +kernel
theorem dX11_may_19 : decode cX11_may 19 = .ok (.iload_n 1, 1) := by decide +kernel
theorem dX11_may_20 : decode cX11_may 20 = .ok (.tableswitch 124 0 11 #[64, 73, 73, 78, 78, 78, 78, 81, 122, 113, 122, 122], 64) := by decide +kernel
theorem dX11_may_84 : decode cX11_may 84 = .ok (.iload_n 3, 1) := by decide +kernel
theorem dX11_may_85 : decode cX11_may 85 = .ok (.iconst 0, 1) := by decide +kernel
theorem dX11_may_86 : decode cX11_may 86 = .ok (.sipush 10000, 3) := by decide +kernel
theorem dX11_may_89 : decode cX11_may 89 = .ok (.invokestatic 149, 3) := by decide +kernel
theorem dX11_may_92 : decode cX11_may 92 = .ok (.ireturn, 1) := by decide +kernel
theorem dX11_may_93 : decode cX11_may 93 = .ok (.iload_n 3, 1) := by decide +kernel
theorem dX11_may_94 : decode cX11_may 94 = .ok (.invokestatic 159, 3) := by decide +kernel
theorem dX11_may_97 : decode cX11_may 97 = .ok (.ireturn, 1) := by decide +kernel
theorem dX11_may_98 : decode cX11_may 98 = .ok (.iload 5, 2) := by decide +kernel
theorem dX11_may_100 : decode cX11_may 100 = .ok (.ireturn, 1) := by decide +kernel
theorem dX11_may_101 : decode cX11_may 101 = .ok (.iload 5, 2) := by decide +kernel
theorem dX11_may_103 : decode cX11_may 103 = .ok (.ifCond .eq 28, 3) := by decide +kernel
theorem dX11_may_106 : decode cX11_may 106 = .ok (.iload_n 3, 1) := by decide +kernel
theorem dX11_may_107 : decode cX11_may 107 = .ok (.invokestatic 159, 3) := by decide +kernel
theorem dX11_may_110 : decode cX11_may 110 = .ok (.ifCond .eq 21, 3) := by decide +kernel
theorem dX11_may_113 : decode cX11_may 113 = .ok (.iload 4, 2) := by decide +kernel
theorem dX11_may_115 : decode cX11_may 115 = .ok (.invokestatic 159, 3) := by decide +kernel
theorem dX11_may_118 : decode cX11_may 118 = .ok (.ifCond .eq 13, 3) := by decide +kernel
theorem dX11_may_121 : decode cX11_may 121 = .ok (.iload_n 3, 1) := by decide +kernel
theorem dX11_may_122 : decode cX11_may 122 = .ok (.iload 4, 2) := by decide +kernel
theorem dX11_may_124 : decode cX11_may 124 = .ok (.if_icmp .gt 7, 3) := by decide +kernel
theorem dX11_may_127 : decode cX11_may 127 = .ok (.iconst 1, 1) := by decide +kernel
theorem dX11_may_128 : decode cX11_may 128 = .ok (.goto 4, 3) := by decide +kernel
theorem dX11_may_131 : decode cX11_may 131 = .ok (.iconst 0, 1) := by decide +kernel
theorem dX11_may_132 : decode cX11_may 132 = .ok (.ireturn, 1) := by decide +kernel
theorem dX11_may_133 : decode cX11_may 133 = .ok (.iload_n 3, 1) := by decide +kernel
theorem dX11_may_134 : decode cX11_may 134 = .ok (.iconst 0, 1) := by decide +kernel
theorem dX11_may_135 : decode cX11_may 135 = .ok (.sipush 9999, 3) := by decide +kernel
theorem dX11_may_138 : decode cX11_may 138 = .ok (.invokestatic 149, 3) := by decide +kernel
theorem dX11_may_141 : decode cX11_may 141 = .ok (.ireturn, 1) := by decide +kernel
theorem dX11_may_142 : decode cX11_may 142 = .ok (.iconst 1, 1) := by decide +kernel
theorem dX11_may_143 : decode cX11_may 143 = .ok (.ireturn, 1) := by decide +kernel
theorem dX11_may_144 : decode cX11_may 144 = .ok (.iconst 0, 1) := by decide +kernel
theorem dX11_may_145 : decode cX11_may 145 = .ok (.ireturn, 1) := by decide +kernel
theorem dX11_report_0 : decode cX11_report 0 = .ok (.iload_n 1, 1) := by decide +kernel
theorem dX11_report_1 : decode cX11_report 1 = .ok (.ifCond .lt 34, 3) := by decide +kernel
theorem dX11_report_4 : decode cX11_report 4 = .ok (.iload_n 1, 1) := by decide +kernel
theorem dX11_report_5 : decode cX11_report 5 = .ok (.aload_n 0, 1) := by decide +kernel
theorem dX11_report_6 : decode cX11_report 6 = .ok (.getfield 17, 3) := by decide +kernel
theorem dX11_report_9 : decode cX11_report 9 = .ok (.if_icmp .ge 26, 3) := by decide +kernel
theorem dX11_report_12 : decode cX11_report 12 = .ok (.aload_n 0, 1) := by decide +kernel
theorem dX11_report_13 : decode cX11_report 13 = .ok (.getfield 41, 3) := by decide +kernel
theorem dX11_report_16 : decode cX11_report 16 = .ok (.sipush 400, 3) := by decide +kernel
theorem dX11_report_19 : decode cX11_report 19 = .ok (.if_icmp .eq 16, 3) := by decide +kernel
theorem dX11_report_22 : decode cX11_report 22 = .ok (.aload_n 0, 1) := by decide +kernel
theorem dX11_report_23 : decode cX11_report 23 = .ok (.iload_n 2, 1) := by decide +kernel
theorem dX11_report_24 : decode cX11_report 24 = .ok (.iload_n 3, 1) := by decide +kernel
theorem dX11_report_25 : decode cX11_report 25 = .ok (.iload 4, 2) := by decide +kernel
theorem dX11_report_27 : decode cX11_report 27 = .ok (.iload 5, 2) := by decide +kernel
theorem dX11_report_29 : decode cX11_report 29 = .ok (.invokevirtual 163, 3) := by decide +kernel
theorem dX11_report_32 : decode cX11_report 32 = .ok (.ifCond .ne 5, 3) := by decide +kernel
theorem dX11_report_35 : decode cX11_report 35 = .ok (.iconst (-1), 1) := by decide +kernel
theorem dX11_report_36 : decode cX11_report 36 = .ok (.ireturn, 1) := by decide +kernel
theorem dX11_report_37 : decode cX11_report 37 = .ok (.aload_n 0, 1) := by decide +kernel
theorem dX11_report_38 : decode cX11_report 38 = .ok (.dup, 1) := by decide +kernel
theorem dX11_report_39 : decode cX11_report 39 = .ok (.getfield 41, 3) := by decide +kernel
theorem dX11_report_42 : decode cX11_report 42 = .ok (.iconst 1, 1) := by decide +kernel
theorem dX11_report_43 : decode cX11_report 43 = .ok (.iadd, 1) := by decide +kernel
theorem dX11_report_44 : decode cX11_report 44 = .ok (.putfield 41, 3) := by decide +kernel
theorem dX11_report_47 : decode cX11_report 47 = .ok (.aload_n 0, 1) := by decide +kernel
theorem dX11_report_48 : decode cX11_report 48 = .ok (.getfield 44, 3) := by decide +kernel
theorem dX11_report_51 : decode cX11_report 51 = .ok (.aload_n 0, 1) := by decide +kernel
theorem dX11_report_52 : decode cX11_report 52 = .ok (.getfield 41, 3) := by decide +kernel
theorem dX11_report_55 : decode cX11_report 55 = .ok (.iload_n 1, 1) := by decide +kernel
theorem dX11_report_56 : decode cX11_report 56 = .ok (.iastore, 1) := by decide +kernel
theorem dX11_report_57 : decode cX11_report 57 = .ok (.aload_n 0, 1) := by decide +kernel
theorem dX11_report_58 : decode cX11_report 58 = .ok (.getfield 47, 3) := by decide +kernel
theorem dX11_report_61 : decode cX11_report 61 = .ok (.aload_n 0, 1) := by decide +kernel
theorem dX11_report_62 : decode cX11_report 62 = .ok (.getfield 41, 3) := by decide +kernel
theorem dX11_report_65 : decode cX11_report 65 = .ok (.iload_n 2, 1) := by decide +kernel
theorem dX11_report_66 : decode cX11_report 66 = .ok (.iastore, 1) := by decide +kernel
theorem dX11_report_67 : decode cX11_report 67 = .ok (.aload_n 0, 1) := by decide +kernel
theorem dX11_report_68 : decode cX11_report 68 = .ok (.getfield 50, 3) := by decide +kernel
theorem dX11_report_71 : decode cX11_report 71 = .ok (.aload_n 0, 1) := by decide +kernel
theorem dX11_report_72 : decode cX11_report 72 = .ok (.getfield 41, 3) := by decide +kernel
theorem dX11_report_75 : decode cX11_report 75 = .ok (.iload_n 3, 1) := by decide +kernel
theorem dX11_report_76 : decode cX11_report 76 = .ok (.iastore, 1) := by decide +kernel
theorem dX11_report_77 : decode cX11_report 77 = .ok (.aload_n 0, 1) := by decide +kernel
theorem dX11_report_78 : decode cX11_report 78 = .ok (.getfield 53, 3) := by decide +kernel
theorem dX11_report_81 : decode cX11_report 81 = .ok (.aload_n 0, 1) := by decide +kernel
theorem dX11_report_82 : decode cX11_report 82 = .ok (.getfield 41, 3) := by decide +kernel
theorem dX11_report_85 : decode cX11_report 85 = .ok (.iload 4, 2) := by decide +kernel
theorem dX11_report_87 : decode cX11_report 87 = .ok (.iastore, 1) := by decide +kernel
theorem dX11_report_88 : decode cX11_report 88 = .ok (.aload_n 0, 1) := by decide +kernel
theorem dX11_report_89 : decode cX11_report 89 = .ok (.getfield 56, 3) := by decide +kernel
theorem dX11_report_92 : decode cX11_report 92 = .ok (.aload_n 0, 1) := by decide +kernel
theorem dX11_report_93 : decode cX11_report 93 = .ok (.getfield 41, 3) := by decide +kernel
theorem dX11_report_96 : decode cX11_report 96 = .ok (.iload 5, 2) := by decide +kernel
theorem dX11_report_98 : decode cX11_report 98 = .ok (.iastore, 1) := by decide +kernel
theorem dX11_report_99 : decode cX11_report 99 = .ok (.aload_n 0, 1) := by decide +kernel
theorem dX11_report_100 : decode cX11_report 100 = .ok (.getfield 59, 3) := by decide +kernel
theorem dX11_report_103 : decode cX11_report 103 = .ok (.aload_n 0, 1) := by decide +kernel
theorem dX11_report_104 : decode cX11_report 104 = .ok (.getfield 41, 3) := by decide +kernel
theorem dX11_report_107 : decode cX11_report 107 = .ok (.iconst 0, 1) := by decide +kernel
theorem dX11_report_108 : decode cX11_report 108 = .ok (.iastore, 1) := by decide +kernel
theorem dX11_report_109 : decode cX11_report 109 = .ok (.aload_n 0, 1) := by decide +kernel
theorem dX11_report_110 : decode cX11_report 110 = .ok (.getfield 41, 3) := by decide +kernel
theorem dX11_report_113 : decode cX11_report 113 = .ok (.ireturn, 1) := by decide +kernel
theorem dX11_strike_0 : decode cX11_strike 0 = .ok (.iload_n 1, 1) := by decide +kernel
theorem dX11_strike_1 : decode cX11_strike 1 = .ok (.iconst 1, 1) := by decide +kernel
theorem dX11_strike_2 : decode cX11_strike 2 = .ok (.if_icmp .lt 39, 3) := by decide +kernel
theorem dX11_strike_5 : decode cX11_strike 5 = .ok (.iload_n 1, 1) := by decide +kernel
theorem dX11_strike_6 : decode cX11_strike 6 = .ok (.aload_n 0, 1) := by decide +kernel
theorem dX11_strike_7 : decode cX11_strike 7 = .ok (.getfield 41, 3) := by decide +kernel
theorem dX11_strike_10 : decode cX11_strike 10 = .ok (.if_icmp .gt 31, 3) := by decide +kernel
theorem dX11_strike_13 : decode cX11_strike 13 = .ok (.aload_n 0, 1) := by decide +kernel
theorem dX11_strike_14 : decode cX11_strike 14 = .ok (.getfield 47, 3) := by decide +kernel
theorem dX11_strike_17 : decode cX11_strike 17 = .ok (.iload_n 1, 1) := by decide +kernel
theorem dX11_strike_18 : decode cX11_strike 18 = .ok (.iaload, 1) := by decide +kernel
theorem dX11_strike_19 : decode cX11_strike 19 = .ok (.ifCond .lt 22, 3) := by decide +kernel
theorem dX11_strike_22 : decode cX11_strike 22 = .ok (.aload_n 0, 1) := by decide +kernel
theorem dX11_strike_23 : decode cX11_strike 23 = .ok (.getfield 59, 3) := by decide +kernel
theorem dX11_strike_26 : decode cX11_strike 26 = .ok (.iload_n 1, 1) := by decide +kernel
theorem dX11_strike_27 : decode cX11_strike 27 = .ok (.iaload, 1) := by decide +kernel
theorem dX11_strike_28 : decode cX11_strike 28 = .ok (.ifCond .gt 13, 3) := by decide +kernel
theorem dX11_strike_31 : decode cX11_strike 31 = .ok (.aload_n 0, 1) := by decide +kernel
theorem dX11_strike_32 : decode cX11_strike 32 = .ok (.getfield 41, 3) := by decide +kernel
theorem dX11_strike_35 : decode cX11_strike 35 = .ok (.sipush 400, 3) := by decide +kernel
theorem dX11_strike_38 : decode cX11_strike 38 = .ok (.if_icmp .ne 5, 3) := by decide +kernel
theorem dX11_strike_41 : decode cX11_strike 41 = .ok (.iconst (-1), 1) := by decide +kernel
theorem dX11_strike_42 : decode cX11_strike 42 = .ok (.ireturn, 1) := by decide +kernel
theorem dX11_strike_43 : decode cX11_strike 43 = .ok (.aload_n 0, 1) := by decide +kernel
theorem dX11_strike_44 : decode cX11_strike 44 = .ok (.dup, 1) := by decide +kernel
theorem dX11_strike_45 : decode cX11_strike 45 = .ok (.getfield 41, 3) := by decide +kernel
theorem dX11_strike_48 : decode cX11_strike 48 = .ok (.iconst 1, 1) := by decide +kernel
theorem dX11_strike_49 : decode cX11_strike 49 = .ok (.iadd, 1) := by decide +kernel
theorem dX11_strike_50 : decode cX11_strike 50 = .ok (.putfield 41, 3) := by decide +kernel
theorem dX11_strike_53 : decode cX11_strike 53 = .ok (.aload_n 0, 1) := by decide +kernel
theorem dX11_strike_54 : decode cX11_strike 54 = .ok (.getfield 47, 3) := by decide +kernel
theorem dX11_strike_57 : decode cX11_strike 57 = .ok (.aload_n 0, 1) := by decide +kernel
theorem dX11_strike_58 : decode cX11_strike 58 = .ok (.getfield 41, 3) := by decide +kernel
theorem dX11_strike_61 : decode cX11_strike 61 = .ok (.iconst (-1), 1) := by decide +kernel
theorem dX11_strike_62 : decode cX11_strike 62 = .ok (.iastore, 1) := by decide +kernel
theorem dX11_strike_63 : decode cX11_strike 63 = .ok (.aload_n 0, 1) := by decide +kernel
theorem dX11_strike_64 : decode cX11_strike 64 = .ok (.getfield 59, 3) := by decide +kernel
theorem dX11_strike_67 : decode cX11_strike 67 = .ok (.iload_n 1, 1) := by decide +kernel
theorem dX11_strike_68 : decode cX11_strike 68 = .ok (.aload_n 0, 1) := by decide +kernel
theorem dX11_strike_69 : decode cX11_strike 69 = .ok (.getfield 41, 3) := by decide +kernel
theorem dX11_strike_72 : decode cX11_strike 72 = .ok (.iastore, 1) := by decide +kernel
theorem dX11_strike_73 : decode cX11_strike 73 = .ok (.aload_n 0, 1) := by decide +kernel
theorem dX11_strike_74 : decode cX11_strike 74 = .ok (.getfield 41, 3) := by decide +kernel
theorem dX11_strike_77 : decode cX11_strike 77 = .ok (.ireturn, 1) := by decide +kernel
theorem dX11_as_0 : decode cX11_as 0 = .ok (.iload_n 1, 1) := by decide +kernel
theorem dX11_as_1 : decode cX11_as 1 = .ok (.iconst (-1), 1) := by decide +kernel
theorem dX11_as_2 : decode cX11_as 2 = .ok (.aload_n 0, 1) := by decide +kernel
theorem dX11_as_3 : decode cX11_as 3 = .ok (.getfield 41, 3) := by decide +kernel
theorem dX11_as_6 : decode cX11_as 6 = .ok (.invokestatic 149, 3) := by decide +kernel
theorem dX11_as_9 : decode cX11_as 9 = .ok (.ifCond .ne 5, 3) := by decide +kernel
theorem dX11_as_12 : decode cX11_as 12 = .ok (.iconst 0, 1) := by decide +kernel
theorem dX11_as_13 : decode cX11_as 13 = .ok (.ireturn, 1) := by decide +kernel
theorem dX11_as_14 : decode cX11_as 14 = .ok (.aload_n 0, 1) := by decide +kernel
theorem dX11_as_15 : decode cX11_as 15 = .ok (.iload_n 1, 1) := by decide +kernel
theorem dX11_as_16 : decode cX11_as 16 = .ok (.putfield 62, 3) := by decide +kernel
theorem dX11_as_19 : decode cX11_as 19 = .ok (.iconst 1, 1) := by decide +kernel
theorem dX11_as_20 : decode cX11_as 20 = .ok (.ireturn, 1) := by decide +kernel
theorem dX11_known_0 : decode cX11_known 0 = .ok (.aload_n 0, 1) := by decide +kernel
theorem dX11_known_1 : decode cX11_known 1 = .ok (.getfield 62, 3) := by decide +kernel
theorem dX11_known_4 : decode cX11_known 4 = .ok (.iconst (-1), 1) := by decide +kernel
theorem dX11_known_5 : decode cX11_known 5 = .ok (.if_icmp .ne 10, 3) := by decide +kernel
theorem dX11_known_8 : decode cX11_known 8 = .ok (.aload_n 0, 1) := by decide +kernel
theorem dX11_known_9 : decode cX11_known 9 = .ok (.getfield 41, 3) := by decide +kernel
theorem dX11_known_12 : decode cX11_known 12 = .ok (.goto 7, 3) := by decide +kernel
theorem dX11_known_15 : decode cX11_known 15 = .ok (.aload_n 0, 1) := by decide +kernel
theorem dX11_known_16 : decode cX11_known 16 = .ok (.getfield 62, 3) := by decide +kernel
theorem dX11_known_19 : decode cX11_known 19 = .ok (.ireturn, 1) := by decide +kernel
theorem dX11_stands_0 : decode cX11_stands 0 = .ok (.aload_n 0, 1) := by decide +kernel
theorem dX11_stands_1 : decode cX11_stands 1 = .ok (.getfield 47, 3) := by decide +kernel
theorem dX11_stands_4 : decode cX11_stands 4 = .ok (.iload_n 1, 1) := by decide +kernel
theorem dX11_stands_5 : decode cX11_stands 5 = .ok (.iaload, 1) := by decide +kernel
theorem dX11_stands_6 : decode cX11_stands 6 = .ok (.ifCond .lt 36, 3) := by decide +kernel
theorem dX11_stands_9 : decode cX11_stands 9 = .ok (.aload_n 0, 1) := by decide +kernel
theorem dX11_stands_10 : decode cX11_stands 10 = .ok (.getfield 44, 3) := by decide +kernel
theorem dX11_stands_13 : decode cX11_stands 13 = .ok (.iload_n 1, 1) := by decide +kernel
theorem dX11_stands_14 : decode cX11_stands 14 = .ok (.iaload, 1) := by decide +kernel
theorem dX11_stands_15 : decode cX11_stands 15 = .ok (.iload_n 2, 1) := by decide +kernel
theorem dX11_stands_16 : decode cX11_stands 16 = .ok (.if_icmp .ne 26, 3) := by decide +kernel
theorem dX11_stands_19 : decode cX11_stands 19 = .ok (.aload_n 0, 1) := by decide +kernel
theorem dX11_stands_20 : decode cX11_stands 20 = .ok (.getfield 59, 3) := by decide +kernel
theorem dX11_stands_23 : decode cX11_stands 23 = .ok (.iload_n 1, 1) := by decide +kernel
theorem dX11_stands_24 : decode cX11_stands 24 = .ok (.iaload, 1) := by decide +kernel
theorem dX11_stands_25 : decode cX11_stands 25 = .ok (.ifCond .eq 13, 3) := by decide +kernel
theorem dX11_stands_28 : decode cX11_stands 28 = .ok (.aload_n 0, 1) := by decide +kernel
theorem dX11_stands_29 : decode cX11_stands 29 = .ok (.getfield 59, 3) := by decide +kernel
theorem dX11_stands_32 : decode cX11_stands 32 = .ok (.iload_n 1, 1) := by decide +kernel
theorem dX11_stands_33 : decode cX11_stands 33 = .ok (.iaload, 1) := by decide +kernel
theorem dX11_stands_34 : decode cX11_stands 34 = .ok (.iload_n 3, 1) := by decide +kernel
theorem dX11_stands_35 : decode cX11_stands 35 = .ok (.if_icmp .le 7, 3) := by decide +kernel
theorem dX11_stands_38 : decode cX11_stands 38 = .ok (.iconst 1, 1) := by decide +kernel
theorem dX11_stands_39 : decode cX11_stands 39 = .ok (.goto 4, 3) := by decide +kernel
theorem dX11_stands_42 : decode cX11_stands 42 = .ok (.iconst 0, 1) := by decide +kernel
theorem dX11_stands_43 : decode cX11_stands 43 = .ok (.ireturn, 1) := by decide +kernel
theorem dX11_tallies_0 : decode cX11_tallies 0 = .ok (.iconst 0, 1) := by decide +kernel
theorem dX11_tallies_1 : decode cX11_tallies 1 = .ok (.istore_n 3, 1) := by decide +kernel
theorem dX11_tallies_2 : decode cX11_tallies 2 = .ok (.iload_n 3, 1) := by decide +kernel
theorem dX11_tallies_3 : decode cX11_tallies 3 = .ok (.bipush 18, 2) := by decide +kernel
theorem dX11_tallies_5 : decode cX11_tallies 5 = .ok (.if_icmp .ge 16, 3) := by decide +kernel
theorem dX11_tallies_8 : decode cX11_tallies 8 = .ok (.aload_n 0, 1) := by decide +kernel
theorem dX11_tallies_9 : decode cX11_tallies 9 = .ok (.getfield 65, 3) := by decide +kernel
theorem dX11_tallies_12 : decode cX11_tallies 12 = .ok (.iload_n 3, 1) := by decide +kernel
theorem dX11_tallies_13 : decode cX11_tallies 13 = .ok (.iconst 0, 1) := by decide +kernel
theorem dX11_tallies_14 : decode cX11_tallies 14 = .ok (.iastore, 1) := by decide +kernel
theorem dX11_tallies_15 : decode cX11_tallies 15 = .ok (.iinc 3 1, 3) := by decide +kernel
theorem dX11_tallies_18 : decode cX11_tallies 18 = .ok (.goto (-16), 3) := by decide +kernel
theorem dX11_tallies_21 : decode cX11_tallies 21 = .ok (.iconst 0, 1) := by decide +kernel
theorem dX11_tallies_22 : decode cX11_tallies 22 = .ok (.istore_n 3, 1) := by decide +kernel
theorem dX11_tallies_23 : decode cX11_tallies 23 = .ok (.iload_n 3, 1) := by decide +kernel
theorem dX11_tallies_24 : decode cX11_tallies 24 = .ok (.bipush 120, 2) := by decide +kernel
theorem dX11_tallies_26 : decode cX11_tallies 26 = .ok (.if_icmp .ge 16, 3) := by decide +kernel
theorem dX11_tallies_29 : decode cX11_tallies 29 = .ok (.aload_n 0, 1) := by decide +kernel
theorem dX11_tallies_30 : decode cX11_tallies 30 = .ok (.getfield 68, 3) := by decide +kernel
theorem dX11_tallies_33 : decode cX11_tallies 33 = .ok (.iload_n 3, 1) := by decide +kernel
theorem dX11_tallies_34 : decode cX11_tallies 34 = .ok (.iconst 0, 1) := by decide +kernel
theorem dX11_tallies_35 : decode cX11_tallies 35 = .ok (.iastore, 1) := by decide +kernel
theorem dX11_tallies_36 : decode cX11_tallies 36 = .ok (.iinc 3 1, 3) := by decide +kernel
theorem dX11_tallies_39 : decode cX11_tallies 39 = .ok (.goto (-16), 3) := by decide +kernel
theorem dX11_tallies_42 : decode cX11_tallies 42 = .ok (.aload_n 0, 1) := by decide +kernel
theorem dX11_tallies_43 : decode cX11_tallies 43 = .ok (.getfield 65, 3) := by decide +kernel
theorem dX11_tallies_46 : decode cX11_tallies 46 = .ok (.bipush 15, 2) := by decide +kernel
theorem dX11_tallies_48 : decode cX11_tallies 48 = .ok (.ldc 167, 2) := by decide +kernel
theorem dX11_tallies_50 : decode cX11_tallies 50 = .ok (.iastore, 1) := by decide +kernel
theorem dX11_tallies_51 : decode cX11_tallies 51 = .ok (.aload_n 0, 1) := by decide +kernel
theorem dX11_tallies_52 : decode cX11_tallies 52 = .ok (.getfield 65, 3) := by decide +kernel
theorem dX11_tallies_55 : decode cX11_tallies 55 = .ok (.bipush 16, 2) := by decide +kernel
theorem dX11_tallies_57 : decode cX11_tallies 57 = .ok (.ldc 167, 2) := by decide +kernel
theorem dX11_tallies_59 : decode cX11_tallies 59 = .ok (.iastore, 1) := by decide +kernel
theorem dX11_tallies_60 : decode cX11_tallies 60 = .ok (.iconst 0, 1) := by decide +kernel
theorem dX11_tallies_61 : decode cX11_tallies 61 = .ok (.istore_n 3, 1) := by decide +kernel
theorem dX11_tallies_62 : decode cX11_tallies 62 = .ok (.iconst 1, 1) := by decide +kernel
theorem dX11_tallies_63 : decode cX11_tallies 63 = .ok (.istore 4, 2) := by decide +kernel
theorem dX11_tallies_65 : decode cX11_tallies 65 = .ok (.iload 4, 2) := by decide +kernel
theorem dX11_tallies_67 : decode cX11_tallies 67 = .ok (.iload_n 2, 1) := by decide +kernel
theorem dX11_tallies_68 : decode cX11_tallies 68 = .ok (.if_icmp .gt 236, 3) := by decide +kernel
theorem dX11_tallies_71 : decode cX11_tallies 71 = .ok (.aload_n 0, 1) := by decide +kernel
theorem dX11_tallies_72 : decode cX11_tallies 72 = .ok (.iload 4, 2) := by decide +kernel
theorem dX11_tallies_74 : decode cX11_tallies 74 = .ok (.iload_n 1, 1) := by decide +kernel
theorem dX11_tallies_75 : decode cX11_tallies 75 = .ok (.iload_n 2, 1) := by decide +kernel
theorem dX11_tallies_76 : decode cX11_tallies 76 = .ok (.invokevirtual 168, 3) := by decide +kernel
theorem dX11_tallies_79 : decode cX11_tallies 79 = .ok (.ifCond .ne 6, 3) := by decide +kernel
theorem dX11_tallies_82 : decode cX11_tallies 82 = .ok (.goto 216, 3) := by decide +kernel
theorem dX11_tallies_85 : decode cX11_tallies 85 = .ok (.aload_n 0, 1) := by decide +kernel
theorem dX11_tallies_86 : decode cX11_tallies 86 = .ok (.getfield 47, 3) := by decide +kernel
theorem dX11_tallies_89 : decode cX11_tallies 89 = .ok (.iload 4, 2) := by decide +kernel
theorem dX11_tallies_91 : decode cX11_tallies 91 = .ok (.iaload, 1) := by decide +kernel
theorem dX11_tallies_92 : decode cX11_tallies 92 = .ok (.istore 5, 2) := by decide +kernel
theorem dX11_tallies_94 : decode cX11_tallies 94 = .ok (.iload 5, 2) := by decide +kernel
theorem dX11_tallies_96 : decode cX11_tallies 96 = .ok (.ifCond .ne 16, 3) := by decide +kernel
theorem dX11_tallies_99 : decode cX11_tallies 99 = .ok (.aload_n 0, 1) := by decide +kernel
theorem dX11_tallies_100 : decode cX11_tallies 100 = .ok (.getfield 65, 3) := by decide +kernel
theorem dX11_tallies_103 : decode cX11_tallies 103 = .ok (.iconst 0, 1) := by decide +kernel
theorem dX11_tallies_104 : decode cX11_tallies 104 = .ok (.aload_n 0, 1) := by decide +kernel
theorem dX11_tallies_105 : decode cX11_tallies 105 = .ok (.getfield 53, 3) := by decide +kernel
theorem dX11_tallies_108 : decode cX11_tallies 108 = .ok (.iload 4, 2) := by decide +kernel
theorem dX11_tallies_110 : decode cX11_tallies 110 = .ok (.iaload, 1) := by decide +kernel
theorem dX11_tallies_111 : decode cX11_tallies 111 = .ok (.iastore, 1) := by decide +kernel
theorem dX11_tallies_112 : decode cX11_tallies 112 = .ok (.iload 5, 2) := by decide +kernel
theorem dX11_tallies_114 : decode cX11_tallies 114 = .ok (.bipush 9, 2) := by decide +kernel
theorem dX11_tallies_116 : decode cX11_tallies 116 = .ok (.if_icmp .ne 16, 3) := by decide +kernel
theorem dX11_tallies_119 : decode cX11_tallies 119 = .ok (.aload_n 0, 1) := by decide +kernel
theorem dX11_tallies_120 : decode cX11_tallies 120 = .ok (.getfield 65, 3) := by decide +kernel
theorem dX11_tallies_123 : decode cX11_tallies 123 = .ok (.iconst 1, 1) := by decide +kernel
theorem dX11_tallies_124 : decode cX11_tallies 124 = .ok (.aload_n 0, 1) := by decide +kernel
theorem dX11_tallies_125 : decode cX11_tallies 125 = .ok (.getfield 53, 3) := by decide +kernel
theorem dX11_tallies_128 : decode cX11_tallies 128 = .ok (.iload 4, 2) := by decide +kernel
theorem dX11_tallies_130 : decode cX11_tallies 130 = .ok (.iaload, 1) := by decide +kernel
theorem dX11_tallies_131 : decode cX11_tallies 131 = .ok (.iastore, 1) := by decide +kernel
theorem dX11_tallies_132 : decode cX11_tallies 132 = .ok (.iload 5, 2) := by decide +kernel
theorem dX11_tallies_134 : decode cX11_tallies 134 = .ok (.iconst 1, 1) := by decide +kernel
theorem dX11_tallies_135 : decode cX11_tallies 135 = .ok (.if_icmp .eq 9, 3) := by decide +kernel
theorem dX11_tallies_138 : decode cX11_tallies 138 = .ok (.iload 5, 2) := by decide +kernel
theorem dX11_tallies_140 : decode cX11_tallies 140 = .ok (.iconst 2, 1) := by decide +kernel
theorem dX11_tallies_141 : decode cX11_tallies 141 = .ok (.if_icmp .ne 30, 3) := by decide +kernel
theorem dX11_tallies_144 : decode cX11_tallies 144 = .ok (.aload_n 0, 1) := by decide +kernel
theorem dX11_tallies_145 : decode cX11_tallies 145 = .ok (.getfield 65, 3) := by decide +kernel
theorem dX11_tallies_148 : decode cX11_tallies 148 = .ok (.bipush 14, 2) := by decide +kernel
theorem dX11_tallies_150 : decode cX11_tallies 150 = .ok (.iload 5, 2) := by decide +kernel
theorem dX11_tallies_152 : decode cX11_tallies 152 = .ok (.iadd, 1) := by decide +kernel
theorem dX11_tallies_153 : decode cX11_tallies 153 = .ok (.aload_n 0, 1) := by decide +kernel
theorem dX11_tallies_154 : decode cX11_tallies 154 = .ok (.getfield 53, 3) := by decide +kernel
theorem dX11_tallies_157 : decode cX11_tallies 157 = .ok (.iload 4, 2) := by decide +kernel
theorem dX11_tallies_159 : decode cX11_tallies 159 = .ok (.iaload, 1) := by decide +kernel
theorem dX11_tallies_160 : decode cX11_tallies 160 = .ok (.aload_n 0, 1) := by decide +kernel
theorem dX11_tallies_161 : decode cX11_tallies 161 = .ok (.getfield 32, 3) := by decide +kernel
theorem dX11_tallies_164 : decode cX11_tallies 164 = .ok (.iload 5, 2) := by decide +kernel
theorem dX11_tallies_166 : decode cX11_tallies 166 = .ok (.iconst 1, 1) := by decide +kernel
theorem dX11_tallies_167 : decode cX11_tallies 167 = .ok (.isub, 1) := by decide +kernel
theorem dX11_tallies_168 : decode cX11_tallies 168 = .ok (.iaload, 1) := by decide +kernel
theorem dX11_tallies_169 : decode cX11_tallies 169 = .ok (.isub, 1) := by decide +kernel
theorem dX11_tallies_170 : decode cX11_tallies 170 = .ok (.iastore, 1) := by decide +kernel
theorem dX11_tallies_171 : decode cX11_tallies 171 = .ok (.iload 5, 2) := by decide +kernel
theorem dX11_tallies_173 : decode cX11_tallies 173 = .ok (.iconst 3, 1) := by decide +kernel
theorem dX11_tallies_174 : decode cX11_tallies 174 = .ok (.if_icmp .lt 33, 3) := by decide +kernel
theorem dX11_tallies_177 : decode cX11_tallies 177 = .ok (.iload 5, 2) := by decide +kernel
theorem dX11_tallies_179 : decode cX11_tallies 179 = .ok (.bipush 6, 2) := by decide +kernel
theorem dX11_tallies_181 : decode cX11_tallies 181 = .ok (.if_icmp .gt 26, 3) := by decide +kernel
theorem dX11_tallies_184 : decode cX11_tallies 184 = .ok (.aload_n 0, 1) := by decide +kernel
theorem dX11_tallies_185 : decode cX11_tallies 185 = .ok (.getfield 68, 3) := by decide +kernel
theorem dX11_tallies_188 : decode cX11_tallies 188 = .ok (.iconst 4, 1) := by decide +kernel
theorem dX11_tallies_189 : decode cX11_tallies 189 = .ok (.aload_n 0, 1) := by decide +kernel
theorem dX11_tallies_190 : decode cX11_tallies 190 = .ok (.getfield 50, 3) := by decide +kernel
theorem dX11_tallies_193 : decode cX11_tallies 193 = .ok (.iload 4, 2) := by decide +kernel
theorem dX11_tallies_195 : decode cX11_tallies 195 = .ok (.iaload, 1) := by decide +kernel
theorem dX11_tallies_196 : decode cX11_tallies 196 = .ok (.imul, 1) := by decide +kernel
theorem dX11_tallies_197 : decode cX11_tallies 197 = .ok (.iload 5, 2) := by decide +kernel
theorem dX11_tallies_199 : decode cX11_tallies 199 = .ok (.iadd, 1) := by decide +kernel
theorem dX11_tallies_200 : decode cX11_tallies 200 = .ok (.iconst 3, 1) := by decide +kernel
theorem dX11_tallies_201 : decode cX11_tallies 201 = .ok (.isub, 1) := by decide +kernel
theorem dX11_tallies_202 : decode cX11_tallies 202 = .ok (.dup2, 1) := by decide +kernel
theorem dX11_tallies_203 : decode cX11_tallies 203 = .ok (.iaload, 1) := by decide +kernel
theorem dX11_tallies_204 : decode cX11_tallies 204 = .ok (.iconst 1, 1) := by decide +kernel
theorem dX11_tallies_205 : decode cX11_tallies 205 = .ok (.iadd, 1) := by decide +kernel
theorem dX11_tallies_206 : decode cX11_tallies 206 = .ok (.iastore, 1) := by decide +kernel
theorem dX11_tallies_207 : decode cX11_tallies 207 = .ok (.iload 5, 2) := by decide +kernel
theorem dX11_tallies_209 : decode cX11_tallies 209 = .ok (.bipush 7, 2) := by decide +kernel
theorem dX11_tallies_211 : decode cX11_tallies 211 = .ok (.if_icmp .ne 21, 3) := by decide +kernel
theorem dX11_tallies_214 : decode cX11_tallies 214 = .ok (.iload_n 3, 1) := by decide +kernel
theorem dX11_tallies_215 : decode cX11_tallies 215 = .ok (.aload_n 0, 1) := by decide +kernel
theorem dX11_tallies_216 : decode cX11_tallies 216 = .ok (.getfield 56, 3) := by decide +kernel
theorem dX11_tallies_219 : decode cX11_tallies 219 = .ok (.iload 4, 2) := by decide +kernel
theorem dX11_tallies_221 : decode cX11_tallies 221 = .ok (.iaload, 1) := by decide +kernel
theorem dX11_tallies_222 : decode cX11_tallies 222 = .ok (.aload_n 0, 1) := by decide +kernel
theorem dX11_tallies_223 : decode cX11_tallies 223 = .ok (.getfield 53, 3) := by decide +kernel
theorem dX11_tallies_226 : decode cX11_tallies 226 = .ok (.iload 4, 2) := by decide +kernel
theorem dX11_tallies_228 : decode cX11_tallies 228 = .ok (.iaload, 1) := by decide +kernel
theorem dX11_tallies_229 : decode cX11_tallies 229 = .ok (.isub, 1) := by decide +kernel
theorem dX11_tallies_230 : decode cX11_tallies 230 = .ok (.iadd, 1) := by decide +kernel
theorem dX11_tallies_231 : decode cX11_tallies 231 = .ok (.istore_n 3, 1) := by decide +kernel
theorem dX11_tallies_232 : decode cX11_tallies 232 = .ok (.aload_n 0, 1) := by decide +kernel
theorem dX11_tallies_233 : decode cX11_tallies 233 = .ok (.getfield 65, 3) := by decide +kernel
theorem dX11_tallies_236 : decode cX11_tallies 236 = .ok (.bipush 8, 2) := by decide +kernel
theorem dX11_tallies_238 : decode cX11_tallies 238 = .ok (.dup2, 1) := by decide +kernel
theorem dX11_tallies_239 : decode cX11_tallies 239 = .ok (.iaload, 1) := by decide +kernel
theorem dX11_tallies_240 : decode cX11_tallies 240 = .ok (.iload 5, 2) := by decide +kernel
theorem dX11_tallies_242 : decode cX11_tallies 242 = .ok (.bipush 8, 2) := by decide +kernel
theorem dX11_tallies_244 : decode cX11_tallies 244 = .ok (.if_icmp .ne 7, 3) := by decide +kernel
theorem dX11_tallies_247 : decode cX11_tallies 247 = .ok (.iconst 1, 1) := by decide +kernel
theorem dX11_tallies_248 : decode cX11_tallies 248 = .ok (.goto 4, 3) := by decide +kernel
theorem dX11_tallies_251 : decode cX11_tallies 251 = .ok (.iconst 0, 1) := by decide +kernel
theorem dX11_tallies_252 : decode cX11_tallies 252 = .ok (.iadd, 1) := by decide +kernel
theorem dX11_tallies_253 : decode cX11_tallies 253 = .ok (.iastore, 1) := by decide +kernel
theorem dX11_tallies_254 : decode cX11_tallies 254 = .ok (.aload_n 0, 1) := by decide +kernel
theorem dX11_tallies_255 : decode cX11_tallies 255 = .ok (.getfield 65, 3) := by decide +kernel
theorem dX11_tallies_258 : decode cX11_tallies 258 = .ok (.bipush 9, 2) := by decide +kernel
theorem dX11_tallies_260 : decode cX11_tallies 260 = .ok (.dup2, 1) := by decide +kernel
theorem dX11_tallies_261 : decode cX11_tallies 261 = .ok (.iaload, 1) := by decide +kernel
theorem dX11_tallies_262 : decode cX11_tallies 262 = .ok (.iload 5, 2) := by decide +kernel
theorem dX11_tallies_264 : decode cX11_tallies 264 = .ok (.bipush 10, 2) := by decide +kernel
theorem dX11_tallies_266 : decode cX11_tallies 266 = .ok (.if_icmp .ne 7, 3) := by decide +kernel
theorem dX11_tallies_269 : decode cX11_tallies 269 = .ok (.iconst 1, 1) := by decide +kernel
theorem dX11_tallies_270 : decode cX11_tallies 270 = .ok (.goto 4, 3) := by decide +kernel
theorem dX11_tallies_273 : decode cX11_tallies 273 = .ok (.iconst 0, 1) := by decide +kernel
theorem dX11_tallies_274 : decode cX11_tallies 274 = .ok (.iadd, 1) := by decide +kernel
theorem dX11_tallies_275 : decode cX11_tallies 275 = .ok (.iastore, 1) := by decide +kernel
theorem dX11_tallies_276 : decode cX11_tallies 276 = .ok (.aload_n 0, 1) := by decide +kernel
theorem dX11_tallies_277 : decode cX11_tallies 277 = .ok (.getfield 65, 3) := by decide +kernel
theorem dX11_tallies_280 : decode cX11_tallies 280 = .ok (.bipush 10, 2) := by decide +kernel
theorem dX11_tallies_282 : decode cX11_tallies 282 = .ok (.dup2, 1) := by decide +kernel
theorem dX11_tallies_283 : decode cX11_tallies 283 = .ok (.iaload, 1) := by decide +kernel
theorem dX11_tallies_284 : decode cX11_tallies 284 = .ok (.iload 5, 2) := by decide +kernel
theorem dX11_tallies_286 : decode cX11_tallies 286 = .ok (.bipush 11, 2) := by decide +kernel
theorem dX11_tallies_288 : decode cX11_tallies 288 = .ok (.if_icmp .ne 7, 3) := by decide +kernel
theorem dX11_tallies_291 : decode cX11_tallies 291 = .ok (.iconst 1, 1) := by decide +kernel
theorem dX11_tallies_292 : decode cX11_tallies 292 = .ok (.goto 4, 3) := by decide +kernel
theorem dX11_tallies_295 : decode cX11_tallies 295 = .ok (.iconst 0, 1) := by decide +kernel
theorem dX11_tallies_296 : decode cX11_tallies 296 = .ok (.iadd, 1) := by decide +kernel
theorem dX11_tallies_297 : decode cX11_tallies 297 = .ok (.iastore, 1) := by decide +kernel
theorem dX11_tallies_298 : decode cX11_tallies 298 = .ok (.iinc 4 1, 3) := by decide +kernel
theorem dX11_tallies_301 : decode cX11_tallies 301 = .ok (.goto (-236), 3) := by decide +kernel
theorem dX11_tallies_304 : decode cX11_tallies 304 = .ok (.iconst 0, 1) := by decide +kernel
theorem dX11_tallies_305 : decode cX11_tallies 305 = .ok (.istore 4, 2) := by decide +kernel
theorem dX11_tallies_307 : decode cX11_tallies 307 = .ok (.iload 4, 2) := by decide +kernel
theorem dX11_tallies_309 : decode cX11_tallies 309 = .ok (.aload_n 0, 1) := by decide +kernel
theorem dX11_tallies_310 : decode cX11_tallies 310 = .ok (.getfield 23, 3) := by decide +kernel
theorem dX11_tallies_313 : decode cX11_tallies 313 = .ok (.if_icmp .ge 57, 3) := by decide +kernel
theorem dX11_tallies_316 : decode cX11_tallies 316 = .ok (.aload_n 0, 1) := by decide +kernel
theorem dX11_tallies_317 : decode cX11_tallies 317 = .ok (.iload 4, 2) := by decide +kernel
theorem dX11_tallies_319 : decode cX11_tallies 319 = .ok (.aload_n 0, 1) := by decide +kernel
theorem dX11_tallies_320 : decode cX11_tallies 320 = .ok (.getfield 68, 3) := by decide +kernel
theorem dX11_tallies_323 : decode cX11_tallies 323 = .ok (.iconst 4, 1) := by decide +kernel
theorem dX11_tallies_324 : decode cX11_tallies 324 = .ok (.iload 4, 2) := by decide +kernel
theorem dX11_tallies_326 : decode cX11_tallies 326 = .ok (.imul, 1) := by decide +kernel
theorem dX11_tallies_327 : decode cX11_tallies 327 = .ok (.iaload, 1) := by decide +kernel
theorem dX11_tallies_328 : decode cX11_tallies 328 = .ok (.aload_n 0, 1) := by decide +kernel
theorem dX11_tallies_329 : decode cX11_tallies 329 = .ok (.getfield 68, 3) := by decide +kernel
theorem dX11_tallies_332 : decode cX11_tallies 332 = .ok (.iconst 4, 1) := by decide +kernel
theorem dX11_tallies_333 : decode cX11_tallies 333 = .ok (.iload 4, 2) := by decide +kernel
theorem dX11_tallies_335 : decode cX11_tallies 335 = .ok (.imul, 1) := by decide +kernel
theorem dX11_tallies_336 : decode cX11_tallies 336 = .ok (.iconst 1, 1) := by decide +kernel
theorem dX11_tallies_337 : decode cX11_tallies 337 = .ok (.iadd, 1) := by decide +kernel
theorem dX11_tallies_338 : decode cX11_tallies 338 = .ok (.iaload, 1) := by decide +kernel
theorem dX11_tallies_339 : decode cX11_tallies 339 = .ok (.aload_n 0, 1) := by decide +kernel
theorem dX11_tallies_340 : decode cX11_tallies 340 = .ok (.getfield 68, 3) := by decide +kernel
theorem dX11_tallies_343 : decode cX11_tallies 343 = .ok (.iconst 4, 1) := by decide +kernel
theorem dX11_tallies_344 : decode cX11_tallies 344 = .ok (.iload 4, 2) := by decide +kernel
theorem dX11_tallies_346 : decode cX11_tallies 346 = .ok (.imul, 1) := by decide +kernel
theorem dX11_tallies_347 : decode cX11_tallies 347 = .ok (.iconst 2, 1) := by decide +kernel
theorem dX11_tallies_348 : decode cX11_tallies 348 = .ok (.iadd, 1) := by decide +kernel
theorem dX11_tallies_349 : decode cX11_tallies 349 = .ok (.iaload, 1) := by decide +kernel
theorem dX11_tallies_350 : decode cX11_tallies 350 = .ok (.aload_n 0, 1) := by decide +kernel
theorem dX11_tallies_351 : decode cX11_tallies 351 = .ok (.getfield 68, 3) := by decide +kernel
theorem dX11_tallies_354 : decode cX11_tallies 354 = .ok (.iconst 4, 1) := by decide +kernel
theorem dX11_tallies_355 : decode cX11_tallies 355 = .ok (.iload 4, 2) := by decide +kernel
theorem dX11_tallies_357 : decode cX11_tallies 357 = .ok (.imul, 1) := by decide +kernel
theorem dX11_tallies_358 : decode cX11_tallies 358 = .ok (.iconst 3, 1) := by decide +kernel
theorem dX11_tallies_359 : decode cX11_tallies 359 = .ok (.iadd, 1) := by decide +kernel
theorem dX11_tallies_360 : decode cX11_tallies 360 = .ok (.iaload, 1) := by decide +kernel
theorem dX11_tallies_361 : decode cX11_tallies 361 = .ok (.invokevirtual 171, 3) := by decide +kernel
theorem dX11_tallies_364 : decode cX11_tallies 364 = .ok (.iinc 4 1, 3) := by decide +kernel
theorem dX11_tallies_367 : decode cX11_tallies 367 = .ok (.goto (-60), 3) := by decide +kernel
theorem dX11_tallies_370 : decode cX11_tallies 370 = .ok (.aload_n 0, 1) := by decide +kernel
theorem dX11_tallies_371 : decode cX11_tallies 371 = .ok (.getfield 65, 3) := by decide +kernel
theorem dX11_tallies_374 : decode cX11_tallies 374 = .ok (.bipush 14, 2) := by decide +kernel
theorem dX11_tallies_376 : decode cX11_tallies 376 = .ok (.aload_n 0, 1) := by decide +kernel
theorem dX11_tallies_377 : decode cX11_tallies 377 = .ok (.invokevirtual 153, 3) := by decide +kernel
theorem dX11_tallies_380 : decode cX11_tallies 380 = .ok (.iastore, 1) := by decide +kernel
theorem dX11_tallies_381 : decode cX11_tallies 381 = .ok (.aload_n 0, 1) := by decide +kernel
theorem dX11_tallies_382 : decode cX11_tallies 382 = .ok (.getfield 65, 3) := by decide +kernel
theorem dX11_tallies_385 : decode cX11_tallies 385 = .ok (.bipush 15, 2) := by decide +kernel
theorem dX11_tallies_387 : decode cX11_tallies 387 = .ok (.iaload, 1) := by decide +kernel
theorem dX11_tallies_388 : decode cX11_tallies 388 = .ok (.ldc 167, 2) := by decide +kernel
theorem dX11_tallies_390 : decode cX11_tallies 390 = .ok (.if_icmp .eq 19, 3) := by decide +kernel
theorem dX11_tallies_393 : decode cX11_tallies 393 = .ok (.aload_n 0, 1) := by decide +kernel
theorem dX11_tallies_394 : decode cX11_tallies 394 = .ok (.getfield 65, 3) := by decide +kernel
theorem dX11_tallies_397 : decode cX11_tallies 397 = .ok (.bipush 16, 2) := by decide +kernel
theorem dX11_tallies_399 : decode cX11_tallies 399 = .ok (.iaload, 1) := by decide +kernel
theorem dX11_tallies_400 : decode cX11_tallies 400 = .ok (.ldc 167, 2) := by decide +kernel
theorem dX11_tallies_402 : decode cX11_tallies 402 = .ok (.if_icmp .eq 7, 3) := by decide +kernel
theorem dX11_tallies_405 : decode cX11_tallies 405 = .ok (.iconst 1, 1) := by decide +kernel
theorem dX11_tallies_406 : decode cX11_tallies 406 = .ok (.goto 4, 3) := by decide +kernel
theorem dX11_tallies_409 : decode cX11_tallies 409 = .ok (.iconst 0, 1) := by decide +kernel
theorem dX11_tallies_410 : decode cX11_tallies 410 = .ok (.istore 4, 2) := by decide +kernel
theorem dX11_tallies_412 : decode cX11_tallies 412 = .ok (.aload_n 0, 1) := by decide +kernel
theorem dX11_tallies_413 : decode cX11_tallies 413 = .ok (.getfield 65, 3) := by decide +kernel
theorem dX11_tallies_416 : decode cX11_tallies 416 = .ok (.bipush 16, 2) := by decide +kernel
theorem dX11_tallies_418 : decode cX11_tallies 418 = .ok (.iaload, 1) := by decide +kernel
theorem dX11_tallies_419 : decode cX11_tallies 419 = .ok (.aload_n 0, 1) := by decide +kernel
theorem dX11_tallies_420 : decode cX11_tallies 420 = .ok (.getfield 65, 3) := by decide +kernel
theorem dX11_tallies_423 : decode cX11_tallies 423 = .ok (.bipush 15, 2) := by decide +kernel
theorem dX11_tallies_425 : decode cX11_tallies 425 = .ok (.iaload, 1) := by decide +kernel
theorem dX11_tallies_426 : decode cX11_tallies 426 = .ok (.isub, 1) := by decide +kernel
theorem dX11_tallies_427 : decode cX11_tallies 427 = .ok (.iload_n 3, 1) := by decide +kernel
theorem dX11_tallies_428 : decode cX11_tallies 428 = .ok (.isub, 1) := by decide +kernel
theorem dX11_tallies_429 : decode cX11_tallies 429 = .ok (.istore 5, 2) := by decide +kernel
theorem dX11_tallies_431 : decode cX11_tallies 431 = .ok (.iload 5, 2) := by decide +kernel
theorem dX11_tallies_433 : decode cX11_tallies 433 = .ok (.ifCond .ge 7, 3) := by decide +kernel
theorem dX11_tallies_436 : decode cX11_tallies 436 = .ok (.iconst 0, 1) := by decide +kernel
theorem dX11_tallies_437 : decode cX11_tallies 437 = .ok (.goto 5, 3) := by decide +kernel
theorem dX11_tallies_440 : decode cX11_tallies 440 = .ok (.iload 5, 2) := by decide +kernel
theorem dX11_tallies_442 : decode cX11_tallies 442 = .ok (.istore 5, 2) := by decide +kernel
theorem dX11_tallies_444 : decode cX11_tallies 444 = .ok (.aload_n 0, 1) := by decide +kernel
theorem dX11_tallies_445 : decode cX11_tallies 445 = .ok (.getfield 65, 3) := by decide +kernel
theorem dX11_tallies_448 : decode cX11_tallies 448 = .ok (.bipush 17, 2) := by decide +kernel
theorem dX11_tallies_450 : decode cX11_tallies 450 = .ok (.iload 4, 2) := by decide +kernel
theorem dX11_tallies_452 : decode cX11_tallies 452 = .ok (.ifCond .eq 8, 3) := by decide +kernel
theorem dX11_tallies_455 : decode cX11_tallies 455 = .ok (.iload 5, 2) := by decide +kernel
theorem dX11_tallies_457 : decode cX11_tallies 457 = .ok (.goto 4, 3) := by decide +kernel
theorem dX11_tallies_460 : decode cX11_tallies 460 = .ok (.iconst (-1), 1) := by decide +kernel
theorem dX11_tallies_461 : decode cX11_tallies 461 = .ok (.iastore, 1) := by decide +kernel
theorem dX11_tallies_462 : decode cX11_tallies 462 = .ok (.aload_n 0, 1) := by decide +kernel
theorem dX11_tallies_463 : decode cX11_tallies 463 = .ok (.getfield 65, 3) := by decide +kernel
theorem dX11_tallies_466 : decode cX11_tallies 466 = .ok (.bipush 12, 2) := by decide +kernel
theorem dX11_tallies_468 : decode cX11_tallies 468 = .ok (.iload 4, 2) := by decide +kernel
theorem dX11_tallies_470 : decode cX11_tallies 470 = .ok (.ifCond .eq 28, 3) := by decide +kernel
theorem dX11_tallies_473 : decode cX11_tallies 473 = .ok (.iload 5, 2) := by decide +kernel
theorem dX11_tallies_475 : decode cX11_tallies 475 = .ok (.aload_n 0, 1) := by decide +kernel
theorem dX11_tallies_476 : decode cX11_tallies 476 = .ok (.getfield 65, 3) := by decide +kernel
theorem dX11_tallies_479 : decode cX11_tallies 479 = .ok (.bipush 14, 2) := by decide +kernel
theorem dX11_tallies_481 : decode cX11_tallies 481 = .ok (.iaload, 1) := by decide +kernel
theorem dX11_tallies_482 : decode cX11_tallies 482 = .ok (.if_icmp .le 16, 3) := by decide +kernel
theorem dX11_tallies_485 : decode cX11_tallies 485 = .ok (.iload 5, 2) := by decide +kernel
theorem dX11_tallies_487 : decode cX11_tallies 487 = .ok (.aload_n 0, 1) := by decide +kernel
theorem dX11_tallies_488 : decode cX11_tallies 488 = .ok (.getfield 65, 3) := by decide +kernel
theorem dX11_tallies_491 : decode cX11_tallies 491 = .ok (.bipush 14, 2) := by decide +kernel
theorem dX11_tallies_493 : decode cX11_tallies 493 = .ok (.iaload, 1) := by decide +kernel
theorem dX11_tallies_494 : decode cX11_tallies 494 = .ok (.isub, 1) := by decide +kernel
theorem dX11_tallies_495 : decode cX11_tallies 495 = .ok (.goto 4, 3) := by decide +kernel
theorem dX11_tallies_498 : decode cX11_tallies 498 = .ok (.iconst 0, 1) := by decide +kernel
theorem dX11_tallies_499 : decode cX11_tallies 499 = .ok (.iastore, 1) := by decide +kernel
theorem dX11_tallies_500 : decode cX11_tallies 500 = .ok (.aload_n 0, 1) := by decide +kernel
theorem dX11_tallies_501 : decode cX11_tallies 501 = .ok (.getfield 65, 3) := by decide +kernel
theorem dX11_tallies_504 : decode cX11_tallies 504 = .ok (.bipush 13, 2) := by decide +kernel
theorem dX11_tallies_506 : decode cX11_tallies 506 = .ok (.iload 4, 2) := by decide +kernel
theorem dX11_tallies_508 : decode cX11_tallies 508 = .ok (.ifCond .eq 28, 3) := by decide +kernel
theorem dX11_tallies_511 : decode cX11_tallies 511 = .ok (.iload 5, 2) := by decide +kernel
theorem dX11_tallies_513 : decode cX11_tallies 513 = .ok (.aload_n 0, 1) := by decide +kernel
theorem dX11_tallies_514 : decode cX11_tallies 514 = .ok (.getfield 65, 3) := by decide +kernel
theorem dX11_tallies_517 : decode cX11_tallies 517 = .ok (.bipush 14, 2) := by decide +kernel
theorem dX11_tallies_519 : decode cX11_tallies 519 = .ok (.iaload, 1) := by decide +kernel
theorem dX11_tallies_520 : decode cX11_tallies 520 = .ok (.if_icmp .ge 16, 3) := by decide +kernel
theorem dX11_tallies_523 : decode cX11_tallies 523 = .ok (.aload_n 0, 1) := by decide +kernel
theorem dX11_tallies_524 : decode cX11_tallies 524 = .ok (.getfield 65, 3) := by decide +kernel
theorem dX11_tallies_527 : decode cX11_tallies 527 = .ok (.bipush 14, 2) := by decide +kernel
theorem dX11_tallies_529 : decode cX11_tallies 529 = .ok (.iaload, 1) := by decide +kernel
theorem dX11_tallies_530 : decode cX11_tallies 530 = .ok (.iload 5, 2) := by decide +kernel
theorem dX11_tallies_532 : decode cX11_tallies 532 = .ok (.isub, 1) := by decide +kernel
theorem dX11_tallies_533 : decode cX11_tallies 533 = .ok (.goto 4, 3) := by decide +kernel
theorem dX11_tallies_536 : decode cX11_tallies 536 = .ok (.iconst 0, 1) := by decide +kernel
theorem dX11_tallies_537 : decode cX11_tallies 537 = .ok (.iastore, 1) := by decide +kernel
theorem dX11_tallies_538 : decode cX11_tallies 538 = .ok (.return_, 1) := by decide +kernel
theorem dX11_fence__0 : decode cX11_fence_ 0 = .ok (.aload_n 0, 1) := by decide +kernel
theorem dX11_fence__1 : decode cX11_fence_ 1 = .ok (.getfield 29, 3) := by decide +kernel
theorem dX11_fence__4 : decode cX11_fence_ 4 = .ok (.iload_n 1, 1) := by decide +kernel
theorem dX11_fence__5 : decode cX11_fence_ 5 = .ok (.iaload, 1) := by decide +kernel
theorem dX11_fence__6 : decode cX11_fence_ 6 = .ok (.iconst (-1), 1) := by decide +kernel
theorem dX11_fence__7 : decode cX11_fence_ 7 = .ok (.if_icmp .eq 32, 3) := by decide +kernel
theorem dX11_fence__10 : decode cX11_fence_ 10 = .ok (.aload_n 0, 1) := by decide +kernel
theorem dX11_fence__11 : decode cX11_fence_ 11 = .ok (.getfield 65, 3) := by decide +kernel
theorem dX11_fence__14 : decode cX11_fence_ 14 = .ok (.bipush 15, 2) := by decide +kernel
theorem dX11_fence__16 : decode cX11_fence_ 16 = .ok (.iaload, 1) := by decide +kernel
theorem dX11_fence__17 : decode cX11_fence_ 17 = .ok (.ldc 167, 2) := by decide +kernel
theorem dX11_fence__19 : decode cX11_fence_ 19 = .ok (.if_icmp .eq 20, 3) := by decide +kernel
theorem dX11_fence__22 : decode cX11_fence_ 22 = .ok (.aload_n 0, 1) := by decide +kernel
theorem dX11_fence__23 : decode cX11_fence_ 23 = .ok (.getfield 65, 3) := by decide +kernel
theorem dX11_fence__26 : decode cX11_fence_ 26 = .ok (.bipush 15, 2) := by decide +kernel
theorem dX11_fence__28 : decode cX11_fence_ 28 = .ok (.iaload, 1) := by decide +kernel
theorem dX11_fence__29 : decode cX11_fence_ 29 = .ok (.aload_n 0, 1) := by decide +kernel
theorem dX11_fence__30 : decode cX11_fence_ 30 = .ok (.getfield 29, 3) := by decide +kernel
theorem dX11_fence__33 : decode cX11_fence_ 33 = .ok (.iload_n 1, 1) := by decide +kernel
theorem dX11_fence__34 : decode cX11_fence_ 34 = .ok (.iaload, 1) := by decide +kernel
theorem dX11_fence__35 : decode cX11_fence_ 35 = .ok (.if_icmp .lt 4, 3) := by decide +kernel
theorem dX11_fence__38 : decode cX11_fence_ 38 = .ok (.return_, 1) := by decide +kernel
theorem dX11_fence__39 : decode cX11_fence_ 39 = .ok (.aload_n 0, 1) := by decide +kernel
theorem dX11_fence__40 : decode cX11_fence_ 40 = .ok (.getfield 65, 3) := by decide +kernel
theorem dX11_fence__43 : decode cX11_fence_ 43 = .ok (.iconst 2, 1) := by decide +kernel
theorem dX11_fence__44 : decode cX11_fence_ 44 = .ok (.dup2, 1) := by decide +kernel
theorem dX11_fence__45 : decode cX11_fence_ 45 = .ok (.iaload, 1) := by decide +kernel
theorem dX11_fence__46 : decode cX11_fence_ 46 = .ok (.iload_n 2, 1) := by decide +kernel
theorem dX11_fence__47 : decode cX11_fence_ 47 = .ok (.iadd, 1) := by decide +kernel
theorem dX11_fence__48 : decode cX11_fence_ 48 = .ok (.iastore, 1) := by decide +kernel
theorem dX11_fence__49 : decode cX11_fence_ 49 = .ok (.aload_n 0, 1) := by decide +kernel
theorem dX11_fence__50 : decode cX11_fence_ 50 = .ok (.getfield 65, 3) := by decide +kernel
theorem dX11_fence__53 : decode cX11_fence_ 53 = .ok (.iconst 3, 1) := by decide +kernel
theorem dX11_fence__54 : decode cX11_fence_ 54 = .ok (.dup2, 1) := by decide +kernel
theorem dX11_fence__55 : decode cX11_fence_ 55 = .ok (.iaload, 1) := by decide +kernel
theorem dX11_fence__56 : decode cX11_fence_ 56 = .ok (.iload_n 3, 1) := by decide +kernel
theorem dX11_fence__57 : decode cX11_fence_ 57 = .ok (.iadd, 1) := by decide +kernel
theorem dX11_fence__58 : decode cX11_fence_ 58 = .ok (.iastore, 1) := by decide +kernel
theorem dX11_fence__59 : decode cX11_fence_ 59 = .ok (.aload_n 0, 1) := by decide +kernel
theorem dX11_fence__60 : decode cX11_fence_ 60 = .ok (.getfield 65, 3) := by decide +kernel
theorem dX11_fence__63 : decode cX11_fence_ 63 = .ok (.iconst 4, 1) := by decide +kernel
theorem dX11_fence__64 : decode cX11_fence_ 64 = .ok (.dup2, 1) := by decide +kernel
theorem dX11_fence__65 : decode cX11_fence_ 65 = .ok (.iaload, 1) := by decide +kernel
theorem dX11_fence__66 : decode cX11_fence_ 66 = .ok (.iload 4, 2) := by decide +kernel
theorem dX11_fence__68 : decode cX11_fence_ 68 = .ok (.iadd, 1) := by decide +kernel
theorem dX11_fence__69 : decode cX11_fence_ 69 = .ok (.iastore, 1) := by decide +kernel
theorem dX11_fence__70 : decode cX11_fence_ 70 = .ok (.aload_n 0, 1) := by decide +kernel
theorem dX11_fence__71 : decode cX11_fence_ 71 = .ok (.getfield 65, 3) := by decide +kernel
theorem dX11_fence__74 : decode cX11_fence_ 74 = .ok (.iconst 5, 1) := by decide +kernel
theorem dX11_fence__75 : decode cX11_fence_ 75 = .ok (.dup2, 1) := by decide +kernel
theorem dX11_fence__76 : decode cX11_fence_ 76 = .ok (.iaload, 1) := by decide +kernel
theorem dX11_fence__77 : decode cX11_fence_ 77 = .ok (.iload_n 2, 1) := by decide +kernel
theorem dX11_fence__78 : decode cX11_fence_ 78 = .ok (.ifCond .le 7, 3) := by decide +kernel
theorem dX11_fence__81 : decode cX11_fence_ 81 = .ok (.iconst 1, 1) := by decide +kernel
theorem dX11_fence__82 : decode cX11_fence_ 82 = .ok (.goto 4, 3) := by decide +kernel
theorem dX11_fence__85 : decode cX11_fence_ 85 = .ok (.iconst 0, 1) := by decide +kernel
theorem dX11_fence__86 : decode cX11_fence_ 86 = .ok (.iadd, 1) := by decide +kernel
theorem dX11_fence__87 : decode cX11_fence_ 87 = .ok (.iastore, 1) := by decide +kernel
theorem dX11_fence__88 : decode cX11_fence_ 88 = .ok (.aload_n 0, 1) := by decide +kernel
theorem dX11_fence__89 : decode cX11_fence_ 89 = .ok (.getfield 65, 3) := by decide +kernel
theorem dX11_fence__92 : decode cX11_fence_ 92 = .ok (.bipush 6, 2) := by decide +kernel
theorem dX11_fence__94 : decode cX11_fence_ 94 = .ok (.dup2, 1) := by decide +kernel
theorem dX11_fence__95 : decode cX11_fence_ 95 = .ok (.iaload, 1) := by decide +kernel
theorem dX11_fence__96 : decode cX11_fence_ 96 = .ok (.iload_n 2, 1) := by decide +kernel
theorem dX11_fence__97 : decode cX11_fence_ 97 = .ok (.iconst 1, 1) := by decide +kernel
theorem dX11_fence__98 : decode cX11_fence_ 98 = .ok (.if_icmp .le 7, 3) := by decide +kernel
theorem dX11_fence__101 : decode cX11_fence_ 101 = .ok (.iconst 1, 1) := by decide +kernel
theorem dX11_fence__102 : decode cX11_fence_ 102 = .ok (.goto 4, 3) := by decide +kernel
theorem dX11_fence__105 : decode cX11_fence_ 105 = .ok (.iconst 0, 1) := by decide +kernel
theorem dX11_fence__106 : decode cX11_fence_ 106 = .ok (.iadd, 1) := by decide +kernel
theorem dX11_fence__107 : decode cX11_fence_ 107 = .ok (.iastore, 1) := by decide +kernel
theorem dX11_fence__108 : decode cX11_fence_ 108 = .ok (.aload_n 0, 1) := by decide +kernel
theorem dX11_fence__109 : decode cX11_fence_ 109 = .ok (.getfield 65, 3) := by decide +kernel
theorem dX11_fence__112 : decode cX11_fence_ 112 = .ok (.bipush 7, 2) := by decide +kernel
theorem dX11_fence__114 : decode cX11_fence_ 114 = .ok (.dup2, 1) := by decide +kernel
theorem dX11_fence__115 : decode cX11_fence_ 115 = .ok (.iaload, 1) := by decide +kernel
theorem dX11_fence__116 : decode cX11_fence_ 116 = .ok (.iload_n 2, 1) := by decide +kernel
theorem dX11_fence__117 : decode cX11_fence_ 117 = .ok (.iconst 2, 1) := by decide +kernel
theorem dX11_fence__118 : decode cX11_fence_ 118 = .ok (.if_icmp .le 7, 3) := by decide +kernel
theorem dX11_fence__121 : decode cX11_fence_ 121 = .ok (.iconst 1, 1) := by decide +kernel
theorem dX11_fence__122 : decode cX11_fence_ 122 = .ok (.goto 4, 3) := by decide +kernel
theorem dX11_fence__125 : decode cX11_fence_ 125 = .ok (.iconst 0, 1) := by decide +kernel
theorem dX11_fence__126 : decode cX11_fence_ 126 = .ok (.iadd, 1) := by decide +kernel
theorem dX11_fence__127 : decode cX11_fence_ 127 = .ok (.iastore, 1) := by decide +kernel
theorem dX11_fence__128 : decode cX11_fence_ 128 = .ok (.aload_n 0, 1) := by decide +kernel
theorem dX11_fence__129 : decode cX11_fence_ 129 = .ok (.getfield 65, 3) := by decide +kernel
theorem dX11_fence__132 : decode cX11_fence_ 132 = .ok (.bipush 11, 2) := by decide +kernel
theorem dX11_fence__134 : decode cX11_fence_ 134 = .ok (.dup2, 1) := by decide +kernel
theorem dX11_fence__135 : decode cX11_fence_ 135 = .ok (.iaload, 1) := by decide +kernel
theorem dX11_fence__136 : decode cX11_fence_ 136 = .ok (.iload_n 2, 1) := by decide +kernel
theorem dX11_fence__137 : decode cX11_fence_ 137 = .ok (.iload_n 3, 1) := by decide +kernel
theorem dX11_fence__138 : decode cX11_fence_ 138 = .ok (.iadd, 1) := by decide +kernel
theorem dX11_fence__139 : decode cX11_fence_ 139 = .ok (.iload 4, 2) := by decide +kernel
theorem dX11_fence__141 : decode cX11_fence_ 141 = .ok (.iadd, 1) := by decide +kernel
theorem dX11_fence__142 : decode cX11_fence_ 142 = .ok (.iload 5, 2) := by decide +kernel
theorem dX11_fence__144 : decode cX11_fence_ 144 = .ok (.iadd, 1) := by decide +kernel
theorem dX11_fence__145 : decode cX11_fence_ 145 = .ok (.ifCond .ne 7, 3) := by decide +kernel
theorem dX11_fence__148 : decode cX11_fence_ 148 = .ok (.iconst 1, 1) := by decide +kernel
theorem dX11_fence__149 : decode cX11_fence_ 149 = .ok (.goto 4, 3) := by decide +kernel
theorem dX11_fence__152 : decode cX11_fence_ 152 = .ok (.iconst 0, 1) := by decide +kernel
theorem dX11_fence__153 : decode cX11_fence_ 153 = .ok (.iadd, 1) := by decide +kernel
theorem dX11_fence__154 : decode cX11_fence_ 154 = .ok (.iastore, 1) := by decide +kernel
theorem dX11_fence__155 : decode cX11_fence_ 155 = .ok (.return_, 1) := by decide +kernel
theorem dX11_isRider_0 : decode cX11_isRider 0 = .ok (.iload_n 1, 1) := by decide +kernel
theorem dX11_isRider_1 : decode cX11_isRider 1 = .ok (.ifCond .lt 15, 3) := by decide +kernel
theorem dX11_isRider_4 : decode cX11_isRider 4 = .ok (.iload_n 1, 1) := by decide +kernel
theorem dX11_isRider_5 : decode cX11_isRider 5 = .ok (.aload_n 0, 1) := by decide +kernel
theorem dX11_isRider_6 : decode cX11_isRider 6 = .ok (.getfield 17, 3) := by decide +kernel
theorem dX11_isRider_9 : decode cX11_isRider 9 = .ok (.if_icmp .ge 7, 3) := by decide +kernel
theorem dX11_isRider_12 : decode cX11_isRider 12 = .ok (.iconst 1, 1) := by decide +kernel
theorem dX11_isRider_13 : decode cX11_isRider 13 = .ok (.goto 4, 3) := by decide +kernel
theorem dX11_isRider_16 : decode cX11_isRider 16 = .ok (.iconst 0, 1) := by decide +kernel
theorem dX11_isRider_17 : decode cX11_isRider 17 = .ok (.ireturn, 1) := by decide +kernel
theorem dX11_count_0 : decode cX11_count 0 = .ok (.aload_n 0, 1) := by decide +kernel
theorem dX11_count_1 : decode cX11_count 1 = .ok (.iload_n 1, 1) := by decide +kernel
theorem dX11_count_2 : decode cX11_count 2 = .ok (.invokevirtual 175, 3) := by decide +kernel
theorem dX11_count_5 : decode cX11_count 5 = .ok (.ifCond .eq 13, 3) := by decide +kernel
theorem dX11_count_8 : decode cX11_count 8 = .ok (.iload_n 2, 1) := by decide +kernel
theorem dX11_count_9 : decode cX11_count 9 = .ok (.iconst 0, 1) := by decide +kernel
theorem dX11_count_10 : decode cX11_count 10 = .ok (.bipush 17, 2) := by decide +kernel
theorem dX11_count_12 : decode cX11_count 12 = .ok (.invokestatic 149, 3) := by decide +kernel
theorem dX11_count_15 : decode cX11_count 15 = .ok (.ifCond .ne 6, 3) := by decide +kernel
theorem dX11_count_18 : decode cX11_count 18 = .ok (.ldc 178, 2) := by decide +kernel
theorem dX11_count_20 : decode cX11_count 20 = .ok (.ireturn, 1) := by decide +kernel
theorem dX11_count_21 : decode cX11_count 21 = .ok (.aload_n 0, 1) := by decide +kernel
theorem dX11_count_22 : decode cX11_count 22 = .ok (.iload_n 1, 1) := by decide +kernel
theorem dX11_count_23 : decode cX11_count 23 = .ok (.aload_n 0, 1) := by decide +kernel
theorem dX11_count_24 : decode cX11_count 24 = .ok (.invokevirtual 179, 3) := by decide +kernel
theorem dX11_count_27 : decode cX11_count 27 = .ok (.invokevirtual 182, 3) := by decide +kernel
theorem dX11_count_30 : decode cX11_count 30 = .ok (.aload_n 0, 1) := by decide +kernel
theorem dX11_count_31 : decode cX11_count 31 = .ok (.getfield 65, 3) := by decide +kernel
theorem dX11_count_34 : decode cX11_count 34 = .ok (.iload_n 2, 1) := by decide +kernel
theorem dX11_count_35 : decode cX11_count 35 = .ok (.iaload, 1) := by decide +kernel
theorem dX11_count_36 : decode cX11_count 36 = .ok (.ireturn, 1) := by decide +kernel
theorem dX11_blame_0 : decode cX11_blame 0 = .ok (.aload_n 0, 1) := by decide +kernel
theorem dX11_blame_1 : decode cX11_blame 1 = .ok (.getfield 92, 3) := by decide +kernel
theorem dX11_blame_4 : decode cX11_blame 4 = .ok (.ifCond .le 4, 3) := by decide +kernel
theorem dX11_blame_7 : decode cX11_blame 7 = .ok (.return_, 1) := by decide +kernel
theorem dX11_blame_8 : decode cX11_blame 8 = .ok (.aload_n 0, 1) := by decide +kernel
theorem dX11_blame_9 : decode cX11_blame 9 = .ok (.iload_n 1, 1) := by decide +kernel
theorem dX11_blame_10 : decode cX11_blame 10 = .ok (.putfield 92, 3) := by decide +kernel
theorem dX11_blame_13 : decode cX11_blame 13 = .ok (.aload_n 0, 1) := by decide +kernel
theorem dX11_blame_14 : decode cX11_blame 14 = .ok (.iload_n 2, 1) := by decide +kernel
theorem dX11_blame_15 : decode cX11_blame 15 = .ok (.putfield 95, 3) := by decide +kernel
theorem dX11_blame_18 : decode cX11_blame 18 = .ok (.return_, 1) := by decide +kernel
theorem dX11_isLetter_0 : decode cX11_isLetter 0 = .ok (.iload_n 0, 1) := by decide +kernel
theorem dX11_isLetter_1 : decode cX11_isLetter 1 = .ok (.bipush 97, 2) := by decide +kernel
theorem dX11_isLetter_3 : decode cX11_isLetter 3 = .ok (.if_icmp .lt 13, 3) := by decide +kernel
theorem dX11_isLetter_6 : decode cX11_isLetter 6 = .ok (.iload_n 0, 1) := by decide +kernel
theorem dX11_isLetter_7 : decode cX11_isLetter 7 = .ok (.bipush 122, 2) := by decide +kernel
theorem dX11_isLetter_9 : decode cX11_isLetter 9 = .ok (.if_icmp .gt 7, 3) := by decide +kernel
theorem dX11_isLetter_12 : decode cX11_isLetter 12 = .ok (.iconst 1, 1) := by decide +kernel
theorem dX11_isLetter_13 : decode cX11_isLetter 13 = .ok (.goto 4, 3) := by decide +kernel
theorem dX11_isLetter_16 : decode cX11_isLetter 16 = .ok (.iconst 0, 1) := by decide +kernel
theorem dX11_isLetter_17 : decode cX11_isLetter 17 = .ok (.ireturn, 1) := by decide +kernel
theorem dX11_isDigit_0 : decode cX11_isDigit 0 = .ok (.iload_n 0, 1) := by decide +kernel
theorem dX11_isDigit_1 : decode cX11_isDigit 1 = .ok (.bipush 48, 2) := by decide +kernel
theorem dX11_isDigit_3 : decode cX11_isDigit 3 = .ok (.if_icmp .lt 13, 3) := by decide +kernel
theorem dX11_isDigit_6 : decode cX11_isDigit 6 = .ok (.iload_n 0, 1) := by decide +kernel
theorem dX11_isDigit_7 : decode cX11_isDigit 7 = .ok (.bipush 57, 2) := by decide +kernel
theorem dX11_isDigit_9 : decode cX11_isDigit 9 = .ok (.if_icmp .gt 7, 3) := by decide +kernel
theorem dX11_isDigit_12 : decode cX11_isDigit 12 = .ok (.iconst 1, 1) := by decide +kernel
theorem dX11_isDigit_13 : decode cX11_isDigit 13 = .ok (.goto 4, 3) := by decide +kernel
theorem dX11_isDigit_16 : decode cX11_isDigit 16 = .ok (.iconst 0, 1) := by decide +kernel
theorem dX11_isDigit_17 : decode cX11_isDigit 17 = .ok (.ireturn, 1) := by decide +kernel
theorem dX11_here_0 : decode cX11_here 0 = .ok (.aload_n 0, 1) := by decide +kernel
theorem dX11_here_1 : decode cX11_here 1 = .ok (.getfield 86, 3) := by decide +kernel
theorem dX11_here_4 : decode cX11_here 4 = .ok (.aload_n 0, 1) := by decide +kernel
theorem dX11_here_5 : decode cX11_here 5 = .ok (.getfield 89, 3) := by decide +kernel
theorem dX11_here_8 : decode cX11_here 8 = .ok (.if_icmp .ge 44, 3) := by decide +kernel
theorem dX11_here_11 : decode cX11_here 11 = .ok (.aload_n 0, 1) := by decide +kernel
theorem dX11_here_12 : decode cX11_here 12 = .ok (.getfield 7, 3) := by decide +kernel
theorem dX11_here_15 : decode cX11_here 15 = .ok (.aload_n 0, 1) := by decide +kernel
theorem dX11_here_16 : decode cX11_here 16 = .ok (.getfield 86, 3) := by decide +kernel
theorem dX11_here_19 : decode cX11_here 19 = .ok (.iaload, 1) := by decide +kernel
theorem dX11_here_20 : decode cX11_here 20 = .ok (.bipush 32, 2) := by decide +kernel
theorem dX11_here_22 : decode cX11_here 22 = .ok (.if_icmp .eq 17, 3) := by decide +kernel
theorem dX11_here_25 : decode cX11_here 25 = .ok (.aload_n 0, 1) := by decide +kernel
theorem dX11_here_26 : decode cX11_here 26 = .ok (.getfield 7, 3) := by decide +kernel
theorem dX11_here_29 : decode cX11_here 29 = .ok (.aload_n 0, 1) := by decide +kernel
theorem dX11_here_30 : decode cX11_here 30 = .ok (.getfield 86, 3) := by decide +kernel
theorem dX11_here_33 : decode cX11_here 33 = .ok (.iaload, 1) := by decide +kernel
theorem dX11_here_34 : decode cX11_here 34 = .ok (.bipush 10, 2) := by decide +kernel
theorem dX11_here_36 : decode cX11_here 36 = .ok (.if_icmp .ne 16, 3) := by decide +kernel
theorem dX11_here_39 : decode cX11_here 39 = .ok (.aload_n 0, 1) := by decide +kernel
theorem dX11_here_40 : decode cX11_here 40 = .ok (.dup, 1) := by decide +kernel
theorem dX11_here_41 : decode cX11_here 41 = .ok (.getfield 86, 3) := by decide +kernel
theorem dX11_here_44 : decode cX11_here 44 = .ok (.iconst 1, 1) := by decide +kernel
theorem dX11_here_45 : decode cX11_here 45 = .ok (.iadd, 1) := by decide +kernel
theorem dX11_here_46 : decode cX11_here 46 = .ok (.putfield 86, 3) := by decide +kernel
theorem dX11_here_49 : decode cX11_here 49 = .ok (.goto (-49), 3) := by decide +kernel
theorem dX11_here_52 : decode cX11_here 52 = .ok (.aload_n 0, 1) := by decide +kernel
theorem dX11_here_53 : decode cX11_here 53 = .ok (.getfield 86, 3) := by decide +kernel
theorem dX11_here_56 : decode cX11_here 56 = .ok (.aload_n 0, 1) := by decide +kernel
theorem dX11_here_57 : decode cX11_here 57 = .ok (.getfield 89, 3) := by decide +kernel
theorem dX11_here_60 : decode cX11_here 60 = .ok (.if_icmp .ge 15, 3) := by decide +kernel
theorem dX11_here_63 : decode cX11_here 63 = .ok (.aload_n 0, 1) := by decide +kernel
theorem dX11_here_64 : decode cX11_here 64 = .ok (.getfield 7, 3) := by decide +kernel
theorem dX11_here_67 : decode cX11_here 67 = .ok (.aload_n 0, 1) := by decide +kernel
theorem dX11_here_68 : decode cX11_here 68 = .ok (.getfield 86, 3) := by decide +kernel
theorem dX11_here_71 : decode cX11_here 71 = .ok (.iaload, 1) := by decide +kernel
theorem dX11_here_72 : decode cX11_here 72 = .ok (.goto 4, 3) := by decide +kernel
theorem dX11_here_75 : decode cX11_here 75 = .ok (.iconst (-1), 1) := by decide +kernel
theorem dX11_here_76 : decode cX11_here 76 = .ok (.ireturn, 1) := by decide +kernel
theorem dX11_must_0 : decode cX11_must 0 = .ok (.aload_n 0, 1) := by decide +kernel
theorem dX11_must_1 : decode cX11_must 1 = .ok (.invokevirtual 186, 3) := by decide +kernel
theorem dX11_must_4 : decode cX11_must 4 = .ok (.iload_n 1, 1) := by decide +kernel
theorem dX11_must_5 : decode cX11_must 5 = .ok (.if_icmp .eq 12, 3) := by decide +kernel
theorem dX11_must_8 : decode cX11_must 8 = .ok (.aload_n 0, 1) := by decide +kernel
theorem dX11_must_9 : decode cX11_must 9 = .ok (.iconst 1, 1) := by decide +kernel
theorem dX11_must_10 : decode cX11_must 10 = .ok (.aload_n 0, 1) := by decide +kernel
theorem dX11_must_11 : decode cX11_must 11 = .ok (.getfield 86, 3) := by decide +kernel
theorem dX11_must_14 : decode cX11_must 14 = .ok (.invokevirtual 189, 3) := by decide +kernel
theorem dX11_must_17 : decode cX11_must 17 = .ok (.aload_n 0, 1) := by decide +kernel
theorem dX11_must_18 : decode cX11_must 18 = .ok (.dup, 1) := by decide +kernel
theorem dX11_must_19 : decode cX11_must 19 = .ok (.getfield 86, 3) := by decide +kernel
theorem dX11_must_22 : decode cX11_must 22 = .ok (.iconst 1, 1) := by decide +kernel
theorem dX11_must_23 : decode cX11_must 23 = .ok (.iadd, 1) := by decide +kernel
theorem dX11_must_24 : decode cX11_must 24 = .ok (.putfield 86, 3) := by decide +kernel
theorem dX11_must_27 : decode cX11_must 27 = .ok (.return_, 1) := by decide +kernel
theorem dX11_wordSize_0 : decode cX11_wordSize 0 = .ok (.iconst 0, 1) := by decide +kernel
theorem dX11_wordSize_1 : decode cX11_wordSize 1 = .ok (.istore_n 1, 1) := by decide +kernel
theorem dX11_wordSize_2 : decode cX11_wordSize 2 = .ok (.aload_n 0, 1) := by decide +kernel
theorem dX11_wordSize_3 : decode cX11_wordSize 3 = .ok (.invokevirtual 186, 3) := by decide +kernel
theorem dX11_wordSize_6 : decode cX11_wordSize 6 = .ok (.pop, 1) := by decide +kernel
theorem dX11_wordSize_7 : decode cX11_wordSize 7 = .ok (.aload_n 0, 1) := by decide +kernel
theorem dX11_wordSize_8 : decode cX11_wordSize 8 = .ok (.getfield 86, 3) := by decide +kernel
theorem dX11_wordSize_11 : decode cX11_wordSize 11 = .ok (.iload_n 1, 1) := by decide +kernel
theorem dX11_wordSize_12 : decode cX11_wordSize 12 = .ok (.iadd, 1) := by decide +kernel
theorem dX11_wordSize_13 : decode cX11_wordSize 13 = .ok (.aload_n 0, 1) := by decide +kernel
theorem dX11_wordSize_14 : decode cX11_wordSize 14 = .ok (.getfield 89, 3) := by decide +kernel
theorem dX11_wordSize_17 : decode cX11_wordSize 17 = .ok (.if_icmp .ge 26, 3) := by decide +kernel
theorem dX11_wordSize_20 : decode cX11_wordSize 20 = .ok (.aload_n 0, 1) := by decide +kernel
theorem dX11_wordSize_21 : decode cX11_wordSize 21 = .ok (.getfield 7, 3) := by decide +kernel
theorem dX11_wordSize_24 : decode cX11_wordSize 24 = .ok (.aload_n 0, 1) := by decide +kernel
theorem dX11_wordSize_25 : decode cX11_wordSize 25 = .ok (.getfield 86, 3) := by decide +kernel
theorem dX11_wordSize_28 : decode cX11_wordSize 28 = .ok (.iload_n 1, 1) := by decide +kernel
theorem dX11_wordSize_29 : decode cX11_wordSize 29 = .ok (.iadd, 1) := by decide +kernel
theorem dX11_wordSize_30 : decode cX11_wordSize 30 = .ok (.iaload, 1) := by decide +kernel
theorem dX11_wordSize_31 : decode cX11_wordSize 31 = .ok (.invokestatic 192, 3) := by decide +kernel
theorem dX11_wordSize_34 : decode cX11_wordSize 34 = .ok (.ifCond .eq 9, 3) := by decide +kernel
theorem dX11_wordSize_37 : decode cX11_wordSize 37 = .ok (.iinc 1 1, 3) := by decide +kernel
theorem dX11_wordSize_40 : decode cX11_wordSize 40 = .ok (.goto (-33), 3) := by decide +kernel
theorem dX11_wordSize_43 : decode cX11_wordSize 43 = .ok (.iload_n 1, 1) := by decide +kernel
theorem dX11_wordSize_44 : decode cX11_wordSize 44 = .ok (.ireturn, 1) := by decide +kernel
theorem dX11_spells_0 : decode cX11_spells 0 = .ok (.iload_n 2, 1) := by decide +kernel
theorem dX11_spells_1 : decode cX11_spells 1 = .ok (.iload 5, 2) := by decide +kernel
theorem dX11_spells_3 : decode cX11_spells 3 = .ok (.if_icmp .eq 5, 3) := by decide +kernel
theorem dX11_spells_6 : decode cX11_spells 6 = .ok (.iconst 0, 1) := by decide +kernel
theorem dX11_spells_7 : decode cX11_spells 7 = .ok (.ireturn, 1) := by decide +kernel
theorem dX11_spells_8 : decode cX11_spells 8 = .ok (.iconst 1, 1) := by decide +kernel
theorem dX11_spells_9 : decode cX11_spells 9 = .ok (.istore 6, 2) := by decide +kernel
theorem dX11_spells_11 : decode cX11_spells 11 = .ok (.iconst 0, 1) := by decide +kernel
theorem dX11_spells_12 : decode cX11_spells 12 = .ok (.istore 7, 2) := by decide +kernel
theorem dX11_spells_14 : decode cX11_spells 14 = .ok (.iload 7, 2) := by decide +kernel
theorem dX11_spells_16 : decode cX11_spells 16 = .ok (.iload_n 2, 1) := by decide +kernel
theorem dX11_spells_17 : decode cX11_spells 17 = .ok (.if_icmp .ge 49, 3) := by decide +kernel
theorem dX11_spells_20 : decode cX11_spells 20 = .ok (.iload 6, 2) := by decide +kernel
theorem dX11_spells_22 : decode cX11_spells 22 = .ok (.ifCond .eq 35, 3) := by decide +kernel
theorem dX11_spells_25 : decode cX11_spells 25 = .ok (.aload_n 0, 1) := by decide +kernel
theorem dX11_spells_26 : decode cX11_spells 26 = .ok (.getfield 7, 3) := by decide +kernel
theorem dX11_spells_29 : decode cX11_spells 29 = .ok (.iload_n 1, 1) := by decide +kernel
theorem dX11_spells_30 : decode cX11_spells 30 = .ok (.iload 7, 2) := by decide +kernel
theorem dX11_spells_32 : decode cX11_spells 32 = .ok (.iadd, 1) := by decide +kernel
theorem dX11_spells_33 : decode cX11_spells 33 = .ok (.iaload, 1) := by decide +kernel
theorem dX11_spells_34 : decode cX11_spells 34 = .ok (.lload_n 3, 1) := by decide +kernel
theorem dX11_spells_35 : decode cX11_spells 35 = .ok (.bipush 8, 2) := by decide +kernel
theorem dX11_spells_37 : decode cX11_spells 37 = .ok (.iload_n 2, 1) := by decide +kernel
theorem dX11_spells_38 : decode cX11_spells 38 = .ok (.iconst 1, 1) := by decide +kernel
theorem dX11_spells_39 : decode cX11_spells 39 = .ok (.isub, 1) := by decide +kernel
theorem dX11_spells_40 : decode cX11_spells 40 = .ok (.iload 7, 2) := by decide +kernel
theorem dX11_spells_42 : decode cX11_spells 42 = .ok (.isub, 1) := by decide +kernel
theorem dX11_spells_43 : decode cX11_spells 43 = .ok (.imul, 1) := by decide +kernel
theorem dX11_spells_44 : decode cX11_spells 44 = .ok (.lushr, 1) := by decide +kernel
theorem dX11_spells_45 : decode cX11_spells 45 = .ok (.ldc2_w 195, 3) := by decide +kernel
theorem dX11_spells_48 : decode cX11_spells 48 = .ok (.land, 1) := by decide +kernel
theorem dX11_spells_49 : decode cX11_spells 49 = .ok (.l2i, 1) := by decide +kernel
theorem dX11_spells_50 : decode cX11_spells 50 = .ok (.if_icmp .ne 7, 3) := by decide +kernel
theorem dX11_spells_53 : decode cX11_spells 53 = .ok (.iconst 1, 1) := by decide +kernel
theorem dX11_spells_54 : decode cX11_spells 54 = .ok (.goto 4, 3) := by decide +kernel
theorem dX11_spells_57 : decode cX11_spells 57 = .ok (.iconst 0, 1) := by decide +kernel
theorem dX11_spells_58 : decode cX11_spells 58 = .ok (.istore 6, 2) := by decide +kernel
theorem dX11_spells_60 : decode cX11_spells 60 = .ok (.iinc 7 1, 3) := by decide +kernel
theorem dX11_spells_63 : decode cX11_spells 63 = .ok (.goto (-49), 3) := by decide +kernel
theorem dX11_spells_66 : decode cX11_spells 66 = .ok (.iload 6, 2) := by decide +kernel
theorem dX11_spells_68 : decode cX11_spells 68 = .ok (.ireturn, 1) := by decide +kernel
theorem dX11_isOut_0 : decode cX11_isOut 0 = .ok (.aload_n 0, 1) := by decide +kernel
theorem dX11_isOut_1 : decode cX11_isOut 1 = .ok (.iload_n 1, 1) := by decide +kernel
theorem dX11_isOut_2 : decode cX11_isOut 2 = .ok (.iload_n 2, 1) := by decide +kernel
theorem dX11_isOut_3 : decode cX11_isOut 3 = .ok (.ldc2_w 197, 3) := by decide +kernel
theorem dX11_isOut_6 : decode cX11_isOut 6 = .ok (.iconst 3, 1) := by decide +kernel
theorem dX11_isOut_7 : decode cX11_isOut 7 = .ok (.invokevirtual 199, 3) := by decide +kernel
theorem dX11_isOut_10 : decode cX11_isOut 10 = .ok (.ireturn, 1) := by decide +kernel
theorem dX11_isIf_0 : decode cX11_isIf 0 = .ok (.aload_n 0, 1) := by decide +kernel
theorem dX11_isIf_1 : decode cX11_isIf 1 = .ok (.iload_n 1, 1) := by decide +kernel
theorem dX11_isIf_2 : decode cX11_isIf 2 = .ok (.iload_n 2, 1) := by decide +kernel
theorem dX11_isIf_3 : decode cX11_isIf 3 = .ok (.ldc2_w 203, 3) := by decide +kernel
theorem dX11_isIf_6 : decode cX11_isIf 6 = .ok (.iconst 2, 1) := by decide +kernel
theorem dX11_isIf_7 : decode cX11_isIf 7 = .ok (.invokevirtual 199, 3) := by decide +kernel
theorem dX11_isIf_10 : decode cX11_isIf 10 = .ok (.ireturn, 1) := by decide +kernel
theorem dX11_isTie_0 : decode cX11_isTie 0 = .ok (.aload_n 0, 1) := by decide +kernel
theorem dX11_isTie_1 : decode cX11_isTie 1 = .ok (.iload_n 1, 1) := by decide +kernel
theorem dX11_isTie_2 : decode cX11_isTie 2 = .ok (.iload_n 2, 1) := by decide +kernel
theorem dX11_isTie_3 : decode cX11_isTie 3 = .ok (.ldc2_w 205, 3) := by decide +kernel
theorem dX11_isTie_6 : decode cX11_isTie 6 = .ok (.iconst 3, 1) := by decide +kernel
theorem dX11_isTie_7 : decode cX11_isTie 7 = .ok (.invokevirtual 199, 3) := by decide +kernel
theorem dX11_isTie_10 : decode cX11_isTie 10 = .ok (.ireturn, 1) := by decide +kernel
theorem dX11_isMax_0 : decode cX11_isMax 0 = .ok (.aload_n 0, 1) := by decide +kernel
theorem dX11_isMax_1 : decode cX11_isMax 1 = .ok (.iload_n 1, 1) := by decide +kernel
theorem dX11_isMax_2 : decode cX11_isMax 2 = .ok (.iload_n 2, 1) := by decide +kernel
theorem dX11_isMax_3 : decode cX11_isMax 3 = .ok (.ldc2_w 207, 3) := by decide +kernel
theorem dX11_isMax_6 : decode cX11_isMax 6 = .ok (.iconst 3, 1) := by decide +kernel
theorem dX11_isMax_7 : decode cX11_isMax 7 = .ok (.invokevirtual 199, 3) := by decide +kernel
theorem dX11_isMax_10 : decode cX11_isMax 10 = .ok (.ireturn, 1) := by decide +kernel
theorem dX11_isMin_0 : decode cX11_isMin 0 = .ok (.aload_n 0, 1) := by decide +kernel
theorem dX11_isMin_1 : decode cX11_isMin 1 = .ok (.iload_n 1, 1) := by decide +kernel
theorem dX11_isMin_2 : decode cX11_isMin 2 = .ok (.iload_n 2, 1) := by decide +kernel
theorem dX11_isMin_3 : decode cX11_isMin 3 = .ok (.ldc2_w 209, 3) := by decide +kernel
theorem dX11_isMin_6 : decode cX11_isMin 6 = .ok (.iconst 3, 1) := by decide +kernel
theorem dX11_isMin_7 : decode cX11_isMin 7 = .ok (.invokevirtual 199, 3) := by decide +kernel
theorem dX11_isMin_10 : decode cX11_isMin 10 = .ok (.ireturn, 1) := by decide +kernel
theorem dX11_whichCount_0 : decode cX11_whichCount 0 = .ok (.aload_n 0, 1) := by decide +kernel
theorem dX11_whichCount_1 : decode cX11_whichCount 1 = .ok (.iload_n 1, 1) := by decide +kernel
theorem dX11_whichCount_2 : decode cX11_whichCount 2 = .ok (.iload_n 2, 1) := by decide +kernel
theorem dX11_whichCount_3 : decode cX11_whichCount 3 = .ok (.ldc2_w 211, 3) := by decide +kernel
theorem dX11_whichCount_6 : decode cX11_whichCount 6 = .ok (.iconst 5, 1) := by decide +kernel
theorem dX11_whichCount_7 : decode cX11_whichCount 7 = .ok (.invokevirtual 199, 3) := by decide +kernel
theorem dX11_whichCount_10 : decode cX11_whichCount 10 = .ok (.ifCond .eq 5, 3) := by decide +kernel
theorem dX11_whichCount_13 : decode cX11_whichCount 13 = .ok (.iconst 0, 1) := by decide +kernel
theorem dX11_whichCount_14 : decode cX11_whichCount 14 = .ok (.ireturn, 1) := by decide +kernel
theorem dX11_whichCount_15 : decode cX11_whichCount 15 = .ok (.aload_n 0, 1) := by decide +kernel
theorem dX11_whichCount_16 : decode cX11_whichCount 16 = .ok (.iload_n 1, 1) := by decide +kernel
theorem dX11_whichCount_17 : decode cX11_whichCount 17 = .ok (.iload_n 2, 1) := by decide +kernel
theorem dX11_whichCount_18 : decode cX11_whichCount 18 = .ok (.ldc2_w 213, 3) := by decide +kernel
theorem dX11_whichCount_21 : decode cX11_whichCount 21 = .ok (.iconst 4, 1) := by decide +kernel
theorem dX11_whichCount_22 : decode cX11_whichCount 22 = .ok (.invokevirtual 199, 3) := by decide +kernel
theorem dX11_whichCount_25 : decode cX11_whichCount 25 = .ok (.ifCond .eq 5, 3) := by decide +kernel
theorem dX11_whichCount_28 : decode cX11_whichCount 28 = .ok (.iconst 1, 1) := by decide +kernel
theorem dX11_whichCount_29 : decode cX11_whichCount 29 = .ok (.ireturn, 1) := by decide +kernel
theorem dX11_whichCount_30 : decode cX11_whichCount 30 = .ok (.aload_n 0, 1) := by decide +kernel
theorem dX11_whichCount_31 : decode cX11_whichCount 31 = .ok (.iload_n 1, 1) := by decide +kernel
theorem dX11_whichCount_32 : decode cX11_whichCount 32 = .ok (.iload_n 2, 1) := by decide +kernel
theorem dX11_whichCount_33 : decode cX11_whichCount 33 = .ok (.ldc2_w 215, 3) := by decide +kernel
theorem dX11_whichCount_36 : decode cX11_whichCount 36 = .ok (.bipush 8, 2) := by decide +kernel
theorem dX11_whichCount_38 : decode cX11_whichCount 38 = .ok (.invokevirtual 199, 3) := by decide +kernel
theorem dX11_whichCount_41 : decode cX11_whichCount 41 = .ok (.ifCond .eq 5, 3) := by decide +kernel
theorem dX11_whichCount_44 : decode cX11_whichCount 44 = .ok (.iconst 2, 1) := by decide +kernel
theorem dX11_whichCount_45 : decode cX11_whichCount 45 = .ok (.ireturn, 1) := by decide +kernel
theorem dX11_whichCount_46 : decode cX11_whichCount 46 = .ok (.aload_n 0, 1) := by decide +kernel
theorem dX11_whichCount_47 : decode cX11_whichCount 47 = .ok (.iload_n 1, 1) := by decide +kernel
theorem dX11_whichCount_48 : decode cX11_whichCount 48 = .ok (.iload_n 2, 1) := by decide +kernel
theorem dX11_whichCount_49 : decode cX11_whichCount 49 = .ok (.ldc2_w 217, 3) := by decide +kernel
theorem dX11_whichCount_52 : decode cX11_whichCount 52 = .ok (.iconst 5, 1) := by decide +kernel
theorem dX11_whichCount_53 : decode cX11_whichCount 53 = .ok (.invokevirtual 199, 3) := by decide +kernel
theorem dX11_whichCount_56 : decode cX11_whichCount 56 = .ok (.ifCond .eq 5, 3) := by decide +kernel
theorem dX11_whichCount_59 : decode cX11_whichCount 59 = .ok (.iconst 3, 1) := by decide +kernel
theorem dX11_whichCount_60 : decode cX11_whichCount 60 = .ok (.ireturn, 1) := by decide +kernel
theorem dX11_whichCount_61 : decode cX11_whichCount 61 = .ok (.aload_n 0, 1) := by decide +kernel
theorem dX11_whichCount_62 : decode cX11_whichCount 62 = .ok (.iload_n 1, 1) := by decide +kernel
theorem dX11_whichCount_63 : decode cX11_whichCount 63 = .ok (.iload_n 2, 1) := by decide +kernel
theorem dX11_whichCount_64 : decode cX11_whichCount 64 = .ok (.ldc2_w 219, 3) := by decide +kernel
theorem dX11_whichCount_67 : decode cX11_whichCount 67 = .ok (.bipush 6, 2) := by decide +kernel
theorem dX11_whichCount_69 : decode cX11_whichCount 69 = .ok (.invokevirtual 199, 3) := by decide +kernel
theorem dX11_whichCount_72 : decode cX11_whichCount 72 = .ok (.ifCond .eq 5, 3) := by decide +kernel
theorem dX11_whichCount_75 : decode cX11_whichCount 75 = .ok (.iconst 4, 1) := by decide +kernel
theorem dX11_whichCount_76 : decode cX11_whichCount 76 = .ok (.ireturn, 1) := by decide +kernel
theorem dX11_whichCount_77 : decode cX11_whichCount 77 = .ok (.aload_n 0, 1) := by decide +kernel
theorem dX11_whichCount_78 : decode cX11_whichCount 78 = .ok (.iload_n 1, 1) := by decide +kernel
theorem dX11_whichCount_79 : decode cX11_whichCount 79 = .ok (.iload_n 2, 1) := by decide +kernel
theorem dX11_whichCount_80 : decode cX11_whichCount 80 = .ok (.ldc2_w 221, 3) := by decide +kernel
theorem dX11_whichCount_83 : decode cX11_whichCount 83 = .ok (.iconst 5, 1) := by decide +kernel
theorem dX11_whichCount_84 : decode cX11_whichCount 84 = .ok (.invokevirtual 199, 3) := by decide +kernel
theorem dX11_whichCount_87 : decode cX11_whichCount 87 = .ok (.ifCond .eq 5, 3) := by decide +kernel
theorem dX11_whichCount_90 : decode cX11_whichCount 90 = .ok (.iconst 5, 1) := by decide +kernel
theorem dX11_whichCount_91 : decode cX11_whichCount 91 = .ok (.ireturn, 1) := by decide +kernel
theorem dX11_whichCount_92 : decode cX11_whichCount 92 = .ok (.aload_n 0, 1) := by decide +kernel
theorem dX11_whichCount_93 : decode cX11_whichCount 93 = .ok (.iload_n 1, 1) := by decide +kernel
theorem dX11_whichCount_94 : decode cX11_whichCount 94 = .ok (.iload_n 2, 1) := by decide +kernel
theorem dX11_whichCount_95 : decode cX11_whichCount 95 = .ok (.ldc2_w 223, 3) := by decide +kernel
theorem dX11_whichCount_98 : decode cX11_whichCount 98 = .ok (.bipush 6, 2) := by decide +kernel
theorem dX11_whichCount_100 : decode cX11_whichCount 100 = .ok (.invokevirtual 199, 3) := by decide +kernel
theorem dX11_whichCount_103 : decode cX11_whichCount 103 = .ok (.ifCond .eq 6, 3) := by decide +kernel
theorem dX11_whichCount_106 : decode cX11_whichCount 106 = .ok (.bipush 6, 2) := by decide +kernel
theorem dX11_whichCount_108 : decode cX11_whichCount 108 = .ok (.ireturn, 1) := by decide +kernel
theorem dX11_whichCount_109 : decode cX11_whichCount 109 = .ok (.aload_n 0, 1) := by decide +kernel
theorem dX11_whichCount_110 : decode cX11_whichCount 110 = .ok (.iload_n 1, 1) := by decide +kernel
theorem dX11_whichCount_111 : decode cX11_whichCount 111 = .ok (.iload_n 2, 1) := by decide +kernel
theorem dX11_whichCount_112 : decode cX11_whichCount 112 = .ok (.ldc2_w 225, 3) := by decide +kernel
theorem dX11_whichCount_115 : decode cX11_whichCount 115 = .ok (.iconst 5, 1) := by decide +kernel
theorem dX11_whichCount_116 : decode cX11_whichCount 116 = .ok (.invokevirtual 199, 3) := by decide +kernel
theorem dX11_whichCount_119 : decode cX11_whichCount 119 = .ok (.ifCond .eq 6, 3) := by decide +kernel
theorem dX11_whichCount_122 : decode cX11_whichCount 122 = .ok (.bipush 7, 2) := by decide +kernel
theorem dX11_whichCount_124 : decode cX11_whichCount 124 = .ok (.ireturn, 1) := by decide +kernel
theorem dX11_whichCount_125 : decode cX11_whichCount 125 = .ok (.aload_n 0, 1) := by decide +kernel
theorem dX11_whichCount_126 : decode cX11_whichCount 126 = .ok (.iload_n 1, 1) := by decide +kernel
theorem dX11_whichCount_127 : decode cX11_whichCount 127 = .ok (.iload_n 2, 1) := by decide +kernel
theorem dX11_whichCount_128 : decode cX11_whichCount 128 = .ok (.ldc2_w 227, 3) := by decide +kernel
theorem dX11_whichCount_131 : decode cX11_whichCount 131 = .ok (.bipush 6, 2) := by decide +kernel
theorem dX11_whichCount_133 : decode cX11_whichCount 133 = .ok (.invokevirtual 199, 3) := by decide +kernel
theorem dX11_whichCount_136 : decode cX11_whichCount 136 = .ok (.ifCond .eq 6, 3) := by decide +kernel
theorem dX11_whichCount_139 : decode cX11_whichCount 139 = .ok (.bipush 8, 2) := by decide +kernel
theorem dX11_whichCount_141 : decode cX11_whichCount 141 = .ok (.ireturn, 1) := by decide +kernel
theorem dX11_whichCount_142 : decode cX11_whichCount 142 = .ok (.aload_n 0, 1) := by decide +kernel
theorem dX11_whichCount_143 : decode cX11_whichCount 143 = .ok (.iload_n 1, 1) := by decide +kernel
theorem dX11_whichCount_144 : decode cX11_whichCount 144 = .ok (.iload_n 2, 1) := by decide +kernel
theorem dX11_whichCount_145 : decode cX11_whichCount 145 = .ok (.ldc2_w 229, 3) := by decide +kernel
theorem dX11_whichCount_148 : decode cX11_whichCount 148 = .ok (.iconst 5, 1) := by decide +kernel
theorem dX11_whichCount_149 : decode cX11_whichCount 149 = .ok (.invokevirtual 199, 3) := by decide +kernel
theorem dX11_whichCount_152 : decode cX11_whichCount 152 = .ok (.ifCond .eq 6, 3) := by decide +kernel
theorem dX11_whichCount_155 : decode cX11_whichCount 155 = .ok (.bipush 9, 2) := by decide +kernel
theorem dX11_whichCount_157 : decode cX11_whichCount 157 = .ok (.ireturn, 1) := by decide +kernel
theorem dX11_whichCount_158 : decode cX11_whichCount 158 = .ok (.aload_n 0, 1) := by decide +kernel
theorem dX11_whichCount_159 : decode cX11_whichCount 159 = .ok (.iload_n 1, 1) := by decide +kernel
theorem dX11_whichCount_160 : decode cX11_whichCount 160 = .ok (.iload_n 2, 1) := by decide +kernel
theorem dX11_whichCount_161 : decode cX11_whichCount 161 = .ok (.ldc2_w 231, 3) := by decide +kernel
theorem dX11_whichCount_164 : decode cX11_whichCount 164 = .ok (.bipush 7, 2) := by decide +kernel
theorem dX11_whichCount_166 : decode cX11_whichCount 166 = .ok (.invokevirtual 199, 3) := by decide +kernel
theorem dX11_whichCount_169 : decode cX11_whichCount 169 = .ok (.ifCond .eq 6, 3) := by decide +kernel
theorem dX11_whichCount_172 : decode cX11_whichCount 172 = .ok (.bipush 10, 2) := by decide +kernel
theorem dX11_whichCount_174 : decode cX11_whichCount 174 = .ok (.ireturn, 1) := by decide +kernel
theorem dX11_whichCount_175 : decode cX11_whichCount 175 = .ok (.aload_n 0, 1) := by decide +kernel
theorem dX11_whichCount_176 : decode cX11_whichCount 176 = .ok (.iload_n 1, 1) := by decide +kernel
theorem dX11_whichCount_177 : decode cX11_whichCount 177 = .ok (.iload_n 2, 1) := by decide +kernel
theorem dX11_whichCount_178 : decode cX11_whichCount 178 = .ok (.ldc2_w 233, 3) := by decide +kernel
theorem dX11_whichCount_181 : decode cX11_whichCount 181 = .ok (.bipush 6, 2) := by decide +kernel
theorem dX11_whichCount_183 : decode cX11_whichCount 183 = .ok (.invokevirtual 199, 3) := by decide +kernel
theorem dX11_whichCount_186 : decode cX11_whichCount 186 = .ok (.ifCond .eq 6, 3) := by decide +kernel
theorem dX11_whichCount_189 : decode cX11_whichCount 189 = .ok (.bipush 11, 2) := by decide +kernel
theorem dX11_whichCount_191 : decode cX11_whichCount 191 = .ok (.ireturn, 1) := by decide +kernel
theorem dX11_whichCount_192 : decode cX11_whichCount 192 = .ok (.aload_n 0, 1) := by decide +kernel
theorem dX11_whichCount_193 : decode cX11_whichCount 193 = .ok (.iload_n 1, 1) := by decide +kernel
theorem dX11_whichCount_194 : decode cX11_whichCount 194 = .ok (.iload_n 2, 1) := by decide +kernel
theorem dX11_whichCount_195 : decode cX11_whichCount 195 = .ok (.ldc2_w 235, 3) := by decide +kernel
theorem dX11_whichCount_198 : decode cX11_whichCount 198 = .ok (.iconst 4, 1) := by decide +kernel
theorem dX11_whichCount_199 : decode cX11_whichCount 199 = .ok (.invokevirtual 199, 3) := by decide +kernel
theorem dX11_whichCount_202 : decode cX11_whichCount 202 = .ok (.ifCond .eq 6, 3) := by decide +kernel
theorem dX11_whichCount_205 : decode cX11_whichCount 205 = .ok (.bipush 12, 2) := by decide +kernel
theorem dX11_whichCount_207 : decode cX11_whichCount 207 = .ok (.ireturn, 1) := by decide +kernel
theorem dX11_whichCount_208 : decode cX11_whichCount 208 = .ok (.aload_n 0, 1) := by decide +kernel
theorem dX11_whichCount_209 : decode cX11_whichCount 209 = .ok (.iload_n 1, 1) := by decide +kernel
theorem dX11_whichCount_210 : decode cX11_whichCount 210 = .ok (.iload_n 2, 1) := by decide +kernel
theorem dX11_whichCount_211 : decode cX11_whichCount 211 = .ok (.ldc2_w 237, 3) := by decide +kernel
theorem dX11_whichCount_214 : decode cX11_whichCount 214 = .ok (.iconst 5, 1) := by decide +kernel
theorem dX11_whichCount_215 : decode cX11_whichCount 215 = .ok (.invokevirtual 199, 3) := by decide +kernel
theorem dX11_whichCount_218 : decode cX11_whichCount 218 = .ok (.ifCond .eq 6, 3) := by decide +kernel
theorem dX11_whichCount_221 : decode cX11_whichCount 221 = .ok (.bipush 13, 2) := by decide +kernel
theorem dX11_whichCount_223 : decode cX11_whichCount 223 = .ok (.ireturn, 1) := by decide +kernel
theorem dX11_whichCount_224 : decode cX11_whichCount 224 = .ok (.aload_n 0, 1) := by decide +kernel
theorem dX11_whichCount_225 : decode cX11_whichCount 225 = .ok (.iload_n 1, 1) := by decide +kernel
theorem dX11_whichCount_226 : decode cX11_whichCount 226 = .ok (.iload_n 2, 1) := by decide +kernel
theorem dX11_whichCount_227 : decode cX11_whichCount 227 = .ok (.ldc2_w 239, 3) := by decide +kernel
theorem dX11_whichCount_230 : decode cX11_whichCount 230 = .ok (.bipush 7, 2) := by decide +kernel
theorem dX11_whichCount_232 : decode cX11_whichCount 232 = .ok (.invokevirtual 199, 3) := by decide +kernel
theorem dX11_whichCount_235 : decode cX11_whichCount 235 = .ok (.ifCond .eq 6, 3) := by decide +kernel
theorem dX11_whichCount_238 : decode cX11_whichCount 238 = .ok (.bipush 14, 2) := by decide +kernel
theorem dX11_whichCount_240 : decode cX11_whichCount 240 = .ok (.ireturn, 1) := by decide +kernel
theorem dX11_whichCount_241 : decode cX11_whichCount 241 = .ok (.iconst (-1), 1) := by decide +kernel
theorem dX11_whichCount_242 : decode cX11_whichCount 242 = .ok (.ireturn, 1) := by decide +kernel
theorem dX11_whichGiven_0 : decode cX11_whichGiven 0 = .ok (.iconst 0, 1) := by decide +kernel
theorem dX11_whichGiven_1 : decode cX11_whichGiven 1 = .ok (.istore_n 3, 1) := by decide +kernel
theorem dX11_whichGiven_2 : decode cX11_whichGiven 2 = .ok (.iload_n 3, 1) := by decide +kernel
theorem dX11_whichGiven_3 : decode cX11_whichGiven 3 = .ok (.aload_n 0, 1) := by decide +kernel
theorem dX11_whichGiven_4 : decode cX11_whichGiven 4 = .ok (.getfield 98, 3) := by decide +kernel
theorem dX11_whichGiven_7 : decode cX11_whichGiven 7 = .ok (.if_icmp .ge 93, 3) := by decide +kernel
theorem dX11_whichGiven_10 : decode cX11_whichGiven 10 = .ok (.aload_n 0, 1) := by decide +kernel
theorem dX11_whichGiven_11 : decode cX11_whichGiven 11 = .ok (.getfield 107, 3) := by decide +kernel
theorem dX11_whichGiven_14 : decode cX11_whichGiven 14 = .ok (.iload_n 3, 1) := by decide +kernel
theorem dX11_whichGiven_15 : decode cX11_whichGiven 15 = .ok (.iaload, 1) := by decide +kernel
theorem dX11_whichGiven_16 : decode cX11_whichGiven 16 = .ok (.ifCond .ne 17, 3) := by decide +kernel
theorem dX11_whichGiven_19 : decode cX11_whichGiven 19 = .ok (.aload_n 0, 1) := by decide +kernel
theorem dX11_whichGiven_20 : decode cX11_whichGiven 20 = .ok (.getfield 119, 3) := by decide +kernel
theorem dX11_whichGiven_23 : decode cX11_whichGiven 23 = .ok (.iload_n 3, 1) := by decide +kernel
theorem dX11_whichGiven_24 : decode cX11_whichGiven 24 = .ok (.iaload, 1) := by decide +kernel
theorem dX11_whichGiven_25 : decode cX11_whichGiven 25 = .ok (.iload_n 2, 1) := by decide +kernel
theorem dX11_whichGiven_26 : decode cX11_whichGiven 26 = .ok (.if_icmp .ne 7, 3) := by decide +kernel
theorem dX11_whichGiven_29 : decode cX11_whichGiven 29 = .ok (.iconst 1, 1) := by decide +kernel
theorem dX11_whichGiven_30 : decode cX11_whichGiven 30 = .ok (.goto 4, 3) := by decide +kernel
theorem dX11_whichGiven_33 : decode cX11_whichGiven 33 = .ok (.iconst 0, 1) := by decide +kernel
theorem dX11_whichGiven_34 : decode cX11_whichGiven 34 = .ok (.istore 4, 2) := by decide +kernel
theorem dX11_whichGiven_36 : decode cX11_whichGiven 36 = .ok (.iconst 0, 1) := by decide +kernel
theorem dX11_whichGiven_37 : decode cX11_whichGiven 37 = .ok (.istore 5, 2) := by decide +kernel
theorem dX11_whichGiven_39 : decode cX11_whichGiven 39 = .ok (.iload 5, 2) := by decide +kernel
theorem dX11_whichGiven_41 : decode cX11_whichGiven 41 = .ok (.iload_n 2, 1) := by decide +kernel
theorem dX11_whichGiven_42 : decode cX11_whichGiven 42 = .ok (.if_icmp .ge 45, 3) := by decide +kernel
theorem dX11_whichGiven_45 : decode cX11_whichGiven 45 = .ok (.iload 4, 2) := by decide +kernel
theorem dX11_whichGiven_47 : decode cX11_whichGiven 47 = .ok (.ifCond .eq 40, 3) := by decide +kernel
theorem dX11_whichGiven_50 : decode cX11_whichGiven 50 = .ok (.aload_n 0, 1) := by decide +kernel
theorem dX11_whichGiven_51 : decode cX11_whichGiven 51 = .ok (.getfield 116, 3) := by decide +kernel
theorem dX11_whichGiven_54 : decode cX11_whichGiven 54 = .ok (.bipush 10, 2) := by decide +kernel
theorem dX11_whichGiven_56 : decode cX11_whichGiven 56 = .ok (.iload_n 3, 1) := by decide +kernel
theorem dX11_whichGiven_57 : decode cX11_whichGiven 57 = .ok (.imul, 1) := by decide +kernel
theorem dX11_whichGiven_58 : decode cX11_whichGiven 58 = .ok (.iload 5, 2) := by decide +kernel
theorem dX11_whichGiven_60 : decode cX11_whichGiven 60 = .ok (.iadd, 1) := by decide +kernel
theorem dX11_whichGiven_61 : decode cX11_whichGiven 61 = .ok (.iaload, 1) := by decide +kernel
theorem dX11_whichGiven_62 : decode cX11_whichGiven 62 = .ok (.aload_n 0, 1) := by decide +kernel
theorem dX11_whichGiven_63 : decode cX11_whichGiven 63 = .ok (.getfield 7, 3) := by decide +kernel
theorem dX11_whichGiven_66 : decode cX11_whichGiven 66 = .ok (.iload_n 1, 1) := by decide +kernel
theorem dX11_whichGiven_67 : decode cX11_whichGiven 67 = .ok (.iload 5, 2) := by decide +kernel
theorem dX11_whichGiven_69 : decode cX11_whichGiven 69 = .ok (.iadd, 1) := by decide +kernel
theorem dX11_whichGiven_70 : decode cX11_whichGiven 70 = .ok (.iaload, 1) := by decide +kernel
theorem dX11_whichGiven_71 : decode cX11_whichGiven 71 = .ok (.if_icmp .ne 7, 3) := by decide +kernel
theorem dX11_whichGiven_74 : decode cX11_whichGiven 74 = .ok (.iconst 1, 1) := by decide +kernel
theorem dX11_whichGiven_75 : decode cX11_whichGiven 75 = .ok (.goto 4, 3) := by decide +kernel
theorem dX11_whichGiven_78 : decode cX11_whichGiven 78 = .ok (.iconst 0, 1) := by decide +kernel
theorem dX11_whichGiven_79 : decode cX11_whichGiven 79 = .ok (.istore 4, 2) := by decide +kernel
theorem dX11_whichGiven_81 : decode cX11_whichGiven 81 = .ok (.iinc 5 1, 3) := by decide +kernel
theorem dX11_whichGiven_84 : decode cX11_whichGiven 84 = .ok (.goto (-45), 3) := by decide +kernel
theorem dX11_whichGiven_87 : decode cX11_whichGiven 87 = .ok (.iload 4, 2) := by decide +kernel
theorem dX11_whichGiven_89 : decode cX11_whichGiven 89 = .ok (.ifCond .eq 5, 3) := by decide +kernel
theorem dX11_whichGiven_92 : decode cX11_whichGiven 92 = .ok (.iload_n 3, 1) := by decide +kernel
theorem dX11_whichGiven_93 : decode cX11_whichGiven 93 = .ok (.ireturn, 1) := by decide +kernel
theorem dX11_whichGiven_94 : decode cX11_whichGiven 94 = .ok (.iinc 3 1, 3) := by decide +kernel
theorem dX11_whichGiven_97 : decode cX11_whichGiven 97 = .ok (.goto (-95), 3) := by decide +kernel
theorem dX11_whichGiven_100 : decode cX11_whichGiven 100 = .ok (.iconst (-1), 1) := by decide +kernel
theorem dX11_whichGiven_101 : decode cX11_whichGiven 101 = .ok (.ireturn, 1) := by decide +kernel
theorem dX11_add_0 : decode cX11_add 0 = .ok (.aload_n 0, 1) := by decide +kernel
theorem dX11_add_1 : decode cX11_add 1 = .ok (.getfield 113, 3) := by decide +kernel
theorem dX11_add_4 : decode cX11_add 4 = .ok (.iconst 2, 1) := by decide +kernel
theorem dX11_add_5 : decode cX11_add 5 = .ok (.aload_n 0, 1) := by decide +kernel
theorem dX11_add_6 : decode cX11_add 6 = .ok (.getfield 101, 3) := by decide +kernel
theorem dX11_add_9 : decode cX11_add 9 = .ok (.imul, 1) := by decide +kernel
theorem dX11_add_10 : decode cX11_add 10 = .ok (.iload_n 1, 1) := by decide +kernel
theorem dX11_add_11 : decode cX11_add 11 = .ok (.iastore, 1) := by decide +kernel
theorem dX11_add_12 : decode cX11_add 12 = .ok (.aload_n 0, 1) := by decide +kernel
theorem dX11_add_13 : decode cX11_add 13 = .ok (.getfield 113, 3) := by decide +kernel
theorem dX11_add_16 : decode cX11_add 16 = .ok (.iconst 2, 1) := by decide +kernel
theorem dX11_add_17 : decode cX11_add 17 = .ok (.aload_n 0, 1) := by decide +kernel
theorem dX11_add_18 : decode cX11_add 18 = .ok (.getfield 101, 3) := by decide +kernel
theorem dX11_add_21 : decode cX11_add 21 = .ok (.imul, 1) := by decide +kernel
theorem dX11_add_22 : decode cX11_add 22 = .ok (.iconst 1, 1) := by decide +kernel
theorem dX11_add_23 : decode cX11_add 23 = .ok (.iadd, 1) := by decide +kernel
theorem dX11_add_24 : decode cX11_add 24 = .ok (.iload_n 2, 1) := by decide +kernel
theorem dX11_add_25 : decode cX11_add 25 = .ok (.iastore, 1) := by decide +kernel
theorem dX11_add_26 : decode cX11_add 26 = .ok (.aload_n 0, 1) := by decide +kernel
theorem dX11_add_27 : decode cX11_add 27 = .ok (.dup, 1) := by decide +kernel
theorem dX11_add_28 : decode cX11_add 28 = .ok (.getfield 101, 3) := by decide +kernel
theorem dX11_add_31 : decode cX11_add 31 = .ok (.iconst 1, 1) := by decide +kernel
theorem dX11_add_32 : decode cX11_add 32 = .ok (.iadd, 1) := by decide +kernel
theorem dX11_add_33 : decode cX11_add 33 = .ok (.putfield 101, 3) := by decide +kernel
theorem dX11_add_36 : decode cX11_add 36 = .ok (.return_, 1) := by decide +kernel
theorem dX11_digits_0 : decode cX11_digits 0 = .ok (.aload_n 0, 1) := by decide +kernel
theorem dX11_digits_1 : decode cX11_digits 1 = .ok (.invokevirtual 186, 3) := by decide +kernel
theorem dX11_digits_4 : decode cX11_digits 4 = .ok (.invokestatic 241, 3) := by decide +kernel
theorem dX11_digits_7 : decode cX11_digits 7 = .ok (.ifCond .ne 14, 3) := by decide +kernel
theorem dX11_digits_10 : decode cX11_digits 10 = .ok (.aload_n 0, 1) := by decide +kernel
theorem dX11_digits_11 : decode cX11_digits 11 = .ok (.iconst 1, 1) := by decide +kernel
theorem dX11_digits_12 : decode cX11_digits 12 = .ok (.aload_n 0, 1) := by decide +kernel
theorem dX11_digits_13 : decode cX11_digits 13 = .ok (.getfield 86, 3) := by decide +kernel
theorem dX11_digits_16 : decode cX11_digits 16 = .ok (.invokevirtual 189, 3) := by decide +kernel
theorem dX11_digits_19 : decode cX11_digits 19 = .ok (.iconst 0, 1) := by decide +kernel
theorem dX11_digits_20 : decode cX11_digits 20 = .ok (.ireturn, 1) := by decide +kernel
theorem dX11_digits_21 : decode cX11_digits 21 = .ok (.iconst 0, 1) := by decide +kernel
theorem dX11_digits_22 : decode cX11_digits 22 = .ok (.istore_n 1, 1) := by decide +kernel
theorem dX11_digits_23 : decode cX11_digits 23 = .ok (.iconst 0, 1) := by decide +kernel
theorem dX11_digits_24 : decode cX11_digits 24 = .ok (.istore_n 2, 1) := by decide +kernel
theorem dX11_digits_25 : decode cX11_digits 25 = .ok (.aload_n 0, 1) := by decide +kernel
theorem dX11_digits_26 : decode cX11_digits 26 = .ok (.getfield 86, 3) := by decide +kernel
theorem dX11_digits_29 : decode cX11_digits 29 = .ok (.aload_n 0, 1) := by decide +kernel
theorem dX11_digits_30 : decode cX11_digits 30 = .ok (.getfield 89, 3) := by decide +kernel
theorem dX11_digits_33 : decode cX11_digits 33 = .ok (.if_icmp .ge 73, 3) := by decide +kernel
theorem dX11_digits_36 : decode cX11_digits 36 = .ok (.aload_n 0, 1) := by decide +kernel
theorem dX11_digits_37 : decode cX11_digits 37 = .ok (.getfield 7, 3) := by decide +kernel
theorem dX11_digits_40 : decode cX11_digits 40 = .ok (.aload_n 0, 1) := by decide +kernel
theorem dX11_digits_41 : decode cX11_digits 41 = .ok (.getfield 86, 3) := by decide +kernel
theorem dX11_digits_44 : decode cX11_digits 44 = .ok (.iaload, 1) := by decide +kernel
theorem dX11_digits_45 : decode cX11_digits 45 = .ok (.invokestatic 241, 3) := by decide +kernel
theorem dX11_digits_48 : decode cX11_digits 48 = .ok (.ifCond .eq 58, 3) := by decide +kernel
theorem dX11_digits_51 : decode cX11_digits 51 = .ok (.aload_n 0, 1) := by decide +kernel
theorem dX11_digits_52 : decode cX11_digits 52 = .ok (.getfield 92, 3) := by decide +kernel
theorem dX11_digits_55 : decode cX11_digits 55 = .ok (.ifCond .ne 51, 3) := by decide +kernel
theorem dX11_digits_58 : decode cX11_digits 58 = .ok (.iload_n 2, 1) := by decide +kernel
theorem dX11_digits_59 : decode cX11_digits 59 = .ok (.iconst 5, 1) := by decide +kernel
theorem dX11_digits_60 : decode cX11_digits 60 = .ok (.if_icmp .ne 12, 3) := by decide +kernel
theorem dX11_digits_63 : decode cX11_digits 63 = .ok (.aload_n 0, 1) := by decide +kernel
theorem dX11_digits_64 : decode cX11_digits 64 = .ok (.iconst 1, 1) := by decide +kernel
theorem dX11_digits_65 : decode cX11_digits 65 = .ok (.aload_n 0, 1) := by decide +kernel
theorem dX11_digits_66 : decode cX11_digits 66 = .ok (.getfield 86, 3) := by decide +kernel
theorem dX11_digits_69 : decode cX11_digits 69 = .ok (.invokevirtual 189, 3) := by decide +kernel
theorem dX11_digits_72 : decode cX11_digits 72 = .ok (.bipush 10, 2) := by decide +kernel
theorem dX11_digits_74 : decode cX11_digits 74 = .ok (.iload_n 1, 1) := by decide +kernel
theorem dX11_digits_75 : decode cX11_digits 75 = .ok (.imul, 1) := by decide +kernel
theorem dX11_digits_76 : decode cX11_digits 76 = .ok (.aload_n 0, 1) := by decide +kernel
theorem dX11_digits_77 : decode cX11_digits 77 = .ok (.getfield 7, 3) := by decide +kernel
theorem dX11_digits_80 : decode cX11_digits 80 = .ok (.aload_n 0, 1) := by decide +kernel
theorem dX11_digits_81 : decode cX11_digits 81 = .ok (.getfield 86, 3) := by decide +kernel
theorem dX11_digits_84 : decode cX11_digits 84 = .ok (.iaload, 1) := by decide +kernel
theorem dX11_digits_85 : decode cX11_digits 85 = .ok (.iadd, 1) := by decide +kernel
theorem dX11_digits_86 : decode cX11_digits 86 = .ok (.bipush 48, 2) := by decide +kernel
theorem dX11_digits_88 : decode cX11_digits 88 = .ok (.isub, 1) := by decide +kernel
theorem dX11_digits_89 : decode cX11_digits 89 = .ok (.istore_n 1, 1) := by decide +kernel
theorem dX11_digits_90 : decode cX11_digits 90 = .ok (.aload_n 0, 1) := by decide +kernel
theorem dX11_digits_91 : decode cX11_digits 91 = .ok (.dup, 1) := by decide +kernel
theorem dX11_digits_92 : decode cX11_digits 92 = .ok (.getfield 86, 3) := by decide +kernel
theorem dX11_digits_95 : decode cX11_digits 95 = .ok (.iconst 1, 1) := by decide +kernel
theorem dX11_digits_96 : decode cX11_digits 96 = .ok (.iadd, 1) := by decide +kernel
theorem dX11_digits_97 : decode cX11_digits 97 = .ok (.putfield 86, 3) := by decide +kernel
theorem dX11_digits_100 : decode cX11_digits 100 = .ok (.iinc 2 1, 3) := by decide +kernel
theorem dX11_digits_103 : decode cX11_digits 103 = .ok (.goto (-78), 3) := by decide +kernel
theorem dX11_digits_106 : decode cX11_digits 106 = .ok (.iload_n 1, 1) := by decide +kernel
theorem dX11_digits_107 : decode cX11_digits 107 = .ok (.ireturn, 1) := by decide +kernel
theorem dX11_joins_0 : decode cX11_joins 0 = .ok (.aload_n 0, 1) := by decide +kernel
theorem dX11_joins_1 : decode cX11_joins 1 = .ok (.getfield 129, 3) := by decide +kernel
theorem dX11_joins_4 : decode cX11_joins 4 = .ok (.ifCond .le 79, 3) := by decide +kernel
theorem dX11_joins_7 : decode cX11_joins 7 = .ok (.aload_n 0, 1) := by decide +kernel
theorem dX11_joins_8 : decode cX11_joins 8 = .ok (.getfield 122, 3) := by decide +kernel
theorem dX11_joins_11 : decode cX11_joins 11 = .ok (.aload_n 0, 1) := by decide +kernel
theorem dX11_joins_12 : decode cX11_joins 12 = .ok (.getfield 129, 3) := by decide +kernel
theorem dX11_joins_15 : decode cX11_joins 15 = .ok (.iconst 1, 1) := by decide +kernel
theorem dX11_joins_16 : decode cX11_joins 16 = .ok (.isub, 1) := by decide +kernel
theorem dX11_joins_17 : decode cX11_joins 17 = .ok (.iaload, 1) := by decide +kernel
theorem dX11_joins_18 : decode cX11_joins 18 = .ok (.iconst 5, 1) := by decide +kernel
theorem dX11_joins_19 : decode cX11_joins 19 = .ok (.if_icmp .eq 37, 3) := by decide +kernel
theorem dX11_joins_22 : decode cX11_joins 22 = .ok (.iload_n 1, 1) := by decide +kernel
theorem dX11_joins_23 : decode cX11_joins 23 = .ok (.ifCond .eq 60, 3) := by decide +kernel
theorem dX11_joins_26 : decode cX11_joins 26 = .ok (.aload_n 0, 1) := by decide +kernel
theorem dX11_joins_27 : decode cX11_joins 27 = .ok (.getfield 122, 3) := by decide +kernel
theorem dX11_joins_30 : decode cX11_joins 30 = .ok (.aload_n 0, 1) := by decide +kernel
theorem dX11_joins_31 : decode cX11_joins 31 = .ok (.getfield 129, 3) := by decide +kernel
theorem dX11_joins_34 : decode cX11_joins 34 = .ok (.iconst 1, 1) := by decide +kernel
theorem dX11_joins_35 : decode cX11_joins 35 = .ok (.isub, 1) := by decide +kernel
theorem dX11_joins_36 : decode cX11_joins 36 = .ok (.iaload, 1) := by decide +kernel
theorem dX11_joins_37 : decode cX11_joins 37 = .ok (.iconst 3, 1) := by decide +kernel
theorem dX11_joins_38 : decode cX11_joins 38 = .ok (.if_icmp .eq 18, 3) := by decide +kernel
theorem dX11_joins_41 : decode cX11_joins 41 = .ok (.aload_n 0, 1) := by decide +kernel
theorem dX11_joins_42 : decode cX11_joins 42 = .ok (.getfield 122, 3) := by decide +kernel
theorem dX11_joins_45 : decode cX11_joins 45 = .ok (.aload_n 0, 1) := by decide +kernel
theorem dX11_joins_46 : decode cX11_joins 46 = .ok (.getfield 129, 3) := by decide +kernel
theorem dX11_joins_49 : decode cX11_joins 49 = .ok (.iconst 1, 1) := by decide +kernel
theorem dX11_joins_50 : decode cX11_joins 50 = .ok (.isub, 1) := by decide +kernel
theorem dX11_joins_51 : decode cX11_joins 51 = .ok (.iaload, 1) := by decide +kernel
theorem dX11_joins_52 : decode cX11_joins 52 = .ok (.iconst 4, 1) := by decide +kernel
theorem dX11_joins_53 : decode cX11_joins 53 = .ok (.if_icmp .ne 30, 3) := by decide +kernel
theorem dX11_joins_56 : decode cX11_joins 56 = .ok (.aload_n 0, 1) := by decide +kernel
theorem dX11_joins_57 : decode cX11_joins 57 = .ok (.dup, 1) := by decide +kernel
theorem dX11_joins_58 : decode cX11_joins 58 = .ok (.getfield 129, 3) := by decide +kernel
theorem dX11_joins_61 : decode cX11_joins 61 = .ok (.iconst 1, 1) := by decide +kernel
theorem dX11_joins_62 : decode cX11_joins 62 = .ok (.isub, 1) := by decide +kernel
theorem dX11_joins_63 : decode cX11_joins 63 = .ok (.putfield 129, 3) := by decide +kernel
theorem dX11_joins_66 : decode cX11_joins 66 = .ok (.aload_n 0, 1) := by decide +kernel
theorem dX11_joins_67 : decode cX11_joins 67 = .ok (.aload_n 0, 1) := by decide +kernel
theorem dX11_joins_68 : decode cX11_joins 68 = .ok (.getfield 122, 3) := by decide +kernel
theorem dX11_joins_71 : decode cX11_joins 71 = .ok (.aload_n 0, 1) := by decide +kernel
theorem dX11_joins_72 : decode cX11_joins 72 = .ok (.getfield 129, 3) := by decide +kernel
theorem dX11_joins_75 : decode cX11_joins 75 = .ok (.iaload, 1) := by decide +kernel
theorem dX11_joins_76 : decode cX11_joins 76 = .ok (.iconst 0, 1) := by decide +kernel
theorem dX11_joins_77 : decode cX11_joins 77 = .ok (.invokevirtual 244, 3) := by decide +kernel
theorem dX11_joins_80 : decode cX11_joins 80 = .ok (.goto (-80), 3) := by decide +kernel
theorem dX11_joins_83 : decode cX11_joins 83 = .ok (.return_, 1) := by decide +kernel
theorem dX11_opens_0 : decode cX11_opens 0 = .ok (.aload_n 0, 1) := by decide +kernel
theorem dX11_opens_1 : decode cX11_opens 1 = .ok (.invokevirtual 186, 3) := by decide +kernel
theorem dX11_opens_4 : decode cX11_opens 4 = .ok (.bipush 40, 2) := by decide +kernel
theorem dX11_opens_6 : decode cX11_opens 6 = .ok (.if_icmp .ne 12, 3) := by decide +kernel
theorem dX11_opens_9 : decode cX11_opens 9 = .ok (.aload_n 0, 1) := by decide +kernel
theorem dX11_opens_10 : decode cX11_opens 10 = .ok (.getfield 132, 3) := by decide +kernel
theorem dX11_opens_13 : decode cX11_opens 13 = .ok (.bipush 6, 2) := by decide +kernel
theorem dX11_opens_15 : decode cX11_opens 15 = .ok (.if_icmp .ne 12, 3) := by decide +kernel
theorem dX11_opens_18 : decode cX11_opens 18 = .ok (.aload_n 0, 1) := by decide +kernel
theorem dX11_opens_19 : decode cX11_opens 19 = .ok (.iconst 1, 1) := by decide +kernel
theorem dX11_opens_20 : decode cX11_opens 20 = .ok (.aload_n 0, 1) := by decide +kernel
theorem dX11_opens_21 : decode cX11_opens 21 = .ok (.getfield 86, 3) := by decide +kernel
theorem dX11_opens_24 : decode cX11_opens 24 = .ok (.invokevirtual 189, 3) := by decide +kernel
theorem dX11_opens_27 : decode cX11_opens 27 = .ok (.aload_n 0, 1) := by decide +kernel
theorem dX11_opens_28 : decode cX11_opens 28 = .ok (.getfield 92, 3) := by decide +kernel
theorem dX11_opens_31 : decode cX11_opens 31 = .ok (.ifCond .le 4, 3) := by decide +kernel
theorem dX11_opens_34 : decode cX11_opens 34 = .ok (.return_, 1) := by decide +kernel
theorem dX11_opens_35 : decode cX11_opens 35 = .ok (.aload_n 0, 1) := by decide +kernel
theorem dX11_opens_36 : decode cX11_opens 36 = .ok (.dup, 1) := by decide +kernel
theorem dX11_opens_37 : decode cX11_opens 37 = .ok (.getfield 86, 3) := by decide +kernel
theorem dX11_opens_40 : decode cX11_opens 40 = .ok (.iconst 1, 1) := by decide +kernel
theorem dX11_opens_41 : decode cX11_opens 41 = .ok (.iadd, 1) := by decide +kernel
theorem dX11_opens_42 : decode cX11_opens 42 = .ok (.putfield 86, 3) := by decide +kernel
theorem dX11_opens_45 : decode cX11_opens 45 = .ok (.aload_n 0, 1) := by decide +kernel
theorem dX11_opens_46 : decode cX11_opens 46 = .ok (.dup, 1) := by decide +kernel
theorem dX11_opens_47 : decode cX11_opens 47 = .ok (.getfield 132, 3) := by decide +kernel
theorem dX11_opens_50 : decode cX11_opens 50 = .ok (.iconst 1, 1) := by decide +kernel
theorem dX11_opens_51 : decode cX11_opens 51 = .ok (.iadd, 1) := by decide +kernel
theorem dX11_opens_52 : decode cX11_opens 52 = .ok (.putfield 132, 3) := by decide +kernel
theorem dX11_opens_55 : decode cX11_opens 55 = .ok (.aload_n 0, 1) := by decide +kernel
theorem dX11_opens_56 : decode cX11_opens 56 = .ok (.getfield 122, 3) := by decide +kernel
theorem dX11_opens_59 : decode cX11_opens 59 = .ok (.aload_n 0, 1) := by decide +kernel
theorem dX11_opens_60 : decode cX11_opens 60 = .ok (.getfield 129, 3) := by decide +kernel
theorem dX11_opens_63 : decode cX11_opens 63 = .ok (.iload_n 1, 1) := by decide +kernel
theorem dX11_opens_64 : decode cX11_opens 64 = .ok (.iastore, 1) := by decide +kernel
theorem dX11_opens_65 : decode cX11_opens 65 = .ok (.aload_n 0, 1) := by decide +kernel
theorem dX11_opens_66 : decode cX11_opens 66 = .ok (.getfield 125, 3) := by decide +kernel
theorem dX11_opens_69 : decode cX11_opens 69 = .ok (.aload_n 0, 1) := by decide +kernel
theorem dX11_opens_70 : decode cX11_opens 70 = .ok (.getfield 129, 3) := by decide +kernel
theorem dX11_opens_73 : decode cX11_opens 73 = .ok (.iconst 0, 1) := by decide +kernel
theorem dX11_opens_74 : decode cX11_opens 74 = .ok (.bastore, 1) := by decide +kernel
theorem dX11_opens_75 : decode cX11_opens 75 = .ok (.aload_n 0, 1) := by decide +kernel
theorem dX11_opens_76 : decode cX11_opens 76 = .ok (.dup, 1) := by decide +kernel
theorem dX11_opens_77 : decode cX11_opens 77 = .ok (.getfield 129, 3) := by decide +kernel
theorem dX11_opens_80 : decode cX11_opens 80 = .ok (.iconst 1, 1) := by decide +kernel
theorem dX11_opens_81 : decode cX11_opens 81 = .ok (.iadd, 1) := by decide +kernel
theorem dX11_opens_82 : decode cX11_opens 82 = .ok (.putfield 129, 3) := by decide +kernel
theorem dX11_opens_85 : decode cX11_opens 85 = .ok (.return_, 1) := by decide +kernel
theorem dX11_operand_0 : decode cX11_operand 0 = .ok (.aload_n 0, 1) := by decide +kernel
theorem dX11_operand_1 : decode cX11_operand 1 = .ok (.invokevirtual 186, 3) := by decide +kernel
theorem dX11_operand_4 : decode cX11_operand 4 = .ok (.istore_n 1, 1) := by decide +kernel
theorem dX11_operand_5 : decode cX11_operand 5 = .ok (.iload_n 1, 1) := by decide +kernel
theorem dX11_operand_6 : decode cX11_operand 6 = .ok (.invokestatic 241, 3) := by decide +kernel
theorem dX11_operand_9 : decode cX11_operand 9 = .ok (.ifCond .eq 14, 3) := by decide +kernel
theorem dX11_operand_12 : decode cX11_operand 12 = .ok (.aload_n 0, 1) := by decide +kernel
theorem dX11_operand_13 : decode cX11_operand 13 = .ok (.iconst 0, 1) := by decide +kernel
theorem dX11_operand_14 : decode cX11_operand 14 = .ok (.aload_n 0, 1) := by decide +kernel
theorem dX11_operand_15 : decode cX11_operand 15 = .ok (.invokevirtual 247, 3) := by decide +kernel
theorem dX11_operand_18 : decode cX11_operand 18 = .ok (.invokevirtual 244, 3) := by decide +kernel
theorem dX11_operand_21 : decode cX11_operand 21 = .ok (.iconst 1, 1) := by decide +kernel
theorem dX11_operand_22 : decode cX11_operand 22 = .ok (.ireturn, 1) := by decide +kernel
theorem dX11_operand_23 : decode cX11_operand 23 = .ok (.iload_n 1, 1) := by decide +kernel
theorem dX11_operand_24 : decode cX11_operand 24 = .ok (.bipush 40, 2) := by decide +kernel
theorem dX11_operand_26 : decode cX11_operand 26 = .ok (.if_icmp .ne 11, 3) := by decide +kernel
theorem dX11_operand_29 : decode cX11_operand 29 = .ok (.aload_n 0, 1) := by decide +kernel
theorem dX11_operand_30 : decode cX11_operand 30 = .ok (.bipush 12, 2) := by decide +kernel
theorem dX11_operand_32 : decode cX11_operand 32 = .ok (.invokevirtual 250, 3) := by decide +kernel
theorem dX11_operand_35 : decode cX11_operand 35 = .ok (.iconst 0, 1) := by decide +kernel
theorem dX11_operand_36 : decode cX11_operand 36 = .ok (.ireturn, 1) := by decide +kernel
theorem dX11_operand_37 : decode cX11_operand 37 = .ok (.aload_n 0, 1) := by decide +kernel
theorem dX11_operand_38 : decode cX11_operand 38 = .ok (.invokevirtual 253, 3) := by decide +kernel
theorem dX11_operand_41 : decode cX11_operand 41 = .ok (.istore_n 2, 1) := by decide +kernel
theorem dX11_operand_42 : decode cX11_operand 42 = .ok (.aload_n 0, 1) := by decide +kernel
theorem dX11_operand_43 : decode cX11_operand 43 = .ok (.getfield 86, 3) := by decide +kernel
theorem dX11_operand_46 : decode cX11_operand 46 = .ok (.istore_n 3, 1) := by decide +kernel
theorem dX11_operand_47 : decode cX11_operand 47 = .ok (.iload_n 2, 1) := by decide +kernel
theorem dX11_operand_48 : decode cX11_operand 48 = .ok (.ifCond .eq 30, 3) := by decide +kernel
theorem dX11_operand_51 : decode cX11_operand 51 = .ok (.aload_n 0, 1) := by decide +kernel
theorem dX11_operand_52 : decode cX11_operand 52 = .ok (.iload_n 3, 1) := by decide +kernel
theorem dX11_operand_53 : decode cX11_operand 53 = .ok (.iload_n 2, 1) := by decide +kernel
theorem dX11_operand_54 : decode cX11_operand 54 = .ok (.invokevirtual 256, 3) := by decide +kernel
theorem dX11_operand_57 : decode cX11_operand 57 = .ok (.ifCond .ne 21, 3) := by decide +kernel
theorem dX11_operand_60 : decode cX11_operand 60 = .ok (.aload_n 0, 1) := by decide +kernel
theorem dX11_operand_61 : decode cX11_operand 61 = .ok (.iload_n 3, 1) := by decide +kernel
theorem dX11_operand_62 : decode cX11_operand 62 = .ok (.iload_n 2, 1) := by decide +kernel
theorem dX11_operand_63 : decode cX11_operand 63 = .ok (.invokevirtual 259, 3) := by decide +kernel
theorem dX11_operand_66 : decode cX11_operand 66 = .ok (.ifCond .ne 12, 3) := by decide +kernel
theorem dX11_operand_69 : decode cX11_operand 69 = .ok (.aload_n 0, 1) := by decide +kernel
theorem dX11_operand_70 : decode cX11_operand 70 = .ok (.iload_n 3, 1) := by decide +kernel
theorem dX11_operand_71 : decode cX11_operand 71 = .ok (.iload_n 2, 1) := by decide +kernel
theorem dX11_operand_72 : decode cX11_operand 72 = .ok (.invokevirtual 262, 3) := by decide +kernel
theorem dX11_operand_75 : decode cX11_operand 75 = .ok (.ifCond .eq 11, 3) := by decide +kernel
theorem dX11_operand_78 : decode cX11_operand 78 = .ok (.aload_n 0, 1) := by decide +kernel
theorem dX11_operand_79 : decode cX11_operand 79 = .ok (.iconst 1, 1) := by decide +kernel
theorem dX11_operand_80 : decode cX11_operand 80 = .ok (.iload_n 3, 1) := by decide +kernel
theorem dX11_operand_81 : decode cX11_operand 81 = .ok (.invokevirtual 189, 3) := by decide +kernel
theorem dX11_operand_84 : decode cX11_operand 84 = .ok (.iconst 1, 1) := by decide +kernel
theorem dX11_operand_85 : decode cX11_operand 85 = .ok (.ireturn, 1) := by decide +kernel
theorem dX11_operand_86 : decode cX11_operand 86 = .ok (.aload_n 0, 1) := by decide +kernel
theorem dX11_operand_87 : decode cX11_operand 87 = .ok (.iload_n 3, 1) := by decide +kernel
theorem dX11_operand_88 : decode cX11_operand 88 = .ok (.iload_n 2, 1) := by decide +kernel
theorem dX11_operand_89 : decode cX11_operand 89 = .ok (.invokevirtual 265, 3) := by decide +kernel
theorem dX11_operand_92 : decode cX11_operand 92 = .ok (.ifCond .ne 12, 3) := by decide +kernel
theorem dX11_operand_95 : decode cX11_operand 95 = .ok (.aload_n 0, 1) := by decide +kernel
theorem dX11_operand_96 : decode cX11_operand 96 = .ok (.iload_n 3, 1) := by decide +kernel
theorem dX11_operand_97 : decode cX11_operand 97 = .ok (.iload_n 2, 1) := by decide +kernel
theorem dX11_operand_98 : decode cX11_operand 98 = .ok (.invokevirtual 268, 3) := by decide +kernel
theorem dX11_operand_101 : decode cX11_operand 101 = .ok (.ifCond .eq 35, 3) := by decide +kernel
theorem dX11_operand_104 : decode cX11_operand 104 = .ok (.aload_n 0, 1) := by decide +kernel
theorem dX11_operand_105 : decode cX11_operand 105 = .ok (.dup, 1) := by decide +kernel
theorem dX11_operand_106 : decode cX11_operand 106 = .ok (.getfield 86, 3) := by decide +kernel
theorem dX11_operand_109 : decode cX11_operand 109 = .ok (.iload_n 2, 1) := by decide +kernel
theorem dX11_operand_110 : decode cX11_operand 110 = .ok (.iadd, 1) := by decide +kernel
theorem dX11_operand_111 : decode cX11_operand 111 = .ok (.putfield 86, 3) := by decide +kernel
theorem dX11_operand_114 : decode cX11_operand 114 = .ok (.aload_n 0, 1) := by decide +kernel
theorem dX11_operand_115 : decode cX11_operand 115 = .ok (.aload_n 0, 1) := by decide +kernel
end
section
theorem dX11_operand_116 : decode cX11_operand 116 = .ok (.iload_n 3, 1) := by decide +kernel
theorem dX11_operand_117 : decode cX11_operand 117 = .ok (.iload_n 2, 1) := by decide +kernel
theorem dX11_operand_118 : decode cX11_operand 118 = .ok (.invokevirtual 265, 3) := by decide +kernel
theorem dX11_operand_121 : decode cX11_operand 121 = .ok (.ifCond .eq 8, 3) := by decide +kernel
theorem dX11_operand_124 : decode cX11_operand 124 = .ok (.bipush 7, 2) := by decide +kernel
theorem dX11_operand_126 : decode cX11_operand 126 = .ok (.goto 5, 3) := by decide +kernel
theorem dX11_operand_129 : decode cX11_operand 129 = .ok (.bipush 8, 2) := by decide +kernel
theorem dX11_operand_131 : decode cX11_operand 131 = .ok (.invokevirtual 250, 3) := by decide +kernel
theorem dX11_operand_134 : decode cX11_operand 134 = .ok (.iconst 0, 1) := by decide +kernel
theorem dX11_operand_135 : decode cX11_operand 135 = .ok (.ireturn, 1) := by decide +kernel
theorem dX11_operand_136 : decode cX11_operand 136 = .ok (.iload_n 2, 1) := by decide +kernel
theorem dX11_operand_137 : decode cX11_operand 137 = .ok (.bipush 10, 2) := by decide +kernel
theorem dX11_operand_139 : decode cX11_operand 139 = .ok (.if_icmp .le 12, 3) := by decide +kernel
theorem dX11_operand_142 : decode cX11_operand 142 = .ok (.aload_n 0, 1) := by decide +kernel
theorem dX11_operand_143 : decode cX11_operand 143 = .ok (.iconst 1, 1) := by decide +kernel
theorem dX11_operand_144 : decode cX11_operand 144 = .ok (.iload_n 3, 1) := by decide +kernel
theorem dX11_operand_145 : decode cX11_operand 145 = .ok (.bipush 10, 2) := by decide +kernel
theorem dX11_operand_147 : decode cX11_operand 147 = .ok (.iadd, 1) := by decide +kernel
theorem dX11_operand_148 : decode cX11_operand 148 = .ok (.invokevirtual 189, 3) := by decide +kernel
theorem dX11_operand_151 : decode cX11_operand 151 = .ok (.aload_n 0, 1) := by decide +kernel
theorem dX11_operand_152 : decode cX11_operand 152 = .ok (.iload_n 3, 1) := by decide +kernel
theorem dX11_operand_153 : decode cX11_operand 153 = .ok (.iload_n 2, 1) := by decide +kernel
theorem dX11_operand_154 : decode cX11_operand 154 = .ok (.invokevirtual 271, 3) := by decide +kernel
theorem dX11_operand_157 : decode cX11_operand 157 = .ok (.istore 4, 2) := by decide +kernel
theorem dX11_operand_159 : decode cX11_operand 159 = .ok (.aload_n 0, 1) := by decide +kernel
theorem dX11_operand_160 : decode cX11_operand 160 = .ok (.iload_n 3, 1) := by decide +kernel
theorem dX11_operand_161 : decode cX11_operand 161 = .ok (.iload_n 2, 1) := by decide +kernel
theorem dX11_operand_162 : decode cX11_operand 162 = .ok (.invokevirtual 275, 3) := by decide +kernel
theorem dX11_operand_165 : decode cX11_operand 165 = .ok (.istore 5, 2) := by decide +kernel
theorem dX11_operand_167 : decode cX11_operand 167 = .ok (.iload 4, 2) := by decide +kernel
theorem dX11_operand_169 : decode cX11_operand 169 = .ok (.iconst (-1), 1) := by decide +kernel
theorem dX11_operand_170 : decode cX11_operand 170 = .ok (.if_icmp .ne 15, 3) := by decide +kernel
theorem dX11_operand_173 : decode cX11_operand 173 = .ok (.iload 5, 2) := by decide +kernel
theorem dX11_operand_175 : decode cX11_operand 175 = .ok (.iconst (-1), 1) := by decide +kernel
theorem dX11_operand_176 : decode cX11_operand 176 = .ok (.if_icmp .ne 9, 3) := by decide +kernel
theorem dX11_operand_179 : decode cX11_operand 179 = .ok (.aload_n 0, 1) := by decide +kernel
theorem dX11_operand_180 : decode cX11_operand 180 = .ok (.iconst 3, 1) := by decide +kernel
theorem dX11_operand_181 : decode cX11_operand 181 = .ok (.iload_n 3, 1) := by decide +kernel
theorem dX11_operand_182 : decode cX11_operand 182 = .ok (.invokevirtual 189, 3) := by decide +kernel
theorem dX11_operand_185 : decode cX11_operand 185 = .ok (.aload_n 0, 1) := by decide +kernel
theorem dX11_operand_186 : decode cX11_operand 186 = .ok (.iload 4, 2) := by decide +kernel
theorem dX11_operand_188 : decode cX11_operand 188 = .ok (.iconst (-1), 1) := by decide +kernel
theorem dX11_operand_189 : decode cX11_operand 189 = .ok (.if_icmp .eq 7, 3) := by decide +kernel
theorem dX11_operand_192 : decode cX11_operand 192 = .ok (.iconst 1, 1) := by decide +kernel
theorem dX11_operand_193 : decode cX11_operand 193 = .ok (.goto 4, 3) := by decide +kernel
theorem dX11_operand_196 : decode cX11_operand 196 = .ok (.iconst 2, 1) := by decide +kernel
theorem dX11_operand_197 : decode cX11_operand 197 = .ok (.iload 4, 2) := by decide +kernel
theorem dX11_operand_199 : decode cX11_operand 199 = .ok (.iconst (-1), 1) := by decide +kernel
theorem dX11_operand_200 : decode cX11_operand 200 = .ok (.if_icmp .eq 8, 3) := by decide +kernel
theorem dX11_operand_203 : decode cX11_operand 203 = .ok (.iload 4, 2) := by decide +kernel
theorem dX11_operand_205 : decode cX11_operand 205 = .ok (.goto 5, 3) := by decide +kernel
theorem dX11_operand_208 : decode cX11_operand 208 = .ok (.iload 5, 2) := by decide +kernel
theorem dX11_operand_210 : decode cX11_operand 210 = .ok (.invokevirtual 244, 3) := by decide +kernel
theorem dX11_operand_213 : decode cX11_operand 213 = .ok (.aload_n 0, 1) := by decide +kernel
theorem dX11_operand_214 : decode cX11_operand 214 = .ok (.dup, 1) := by decide +kernel
theorem dX11_operand_215 : decode cX11_operand 215 = .ok (.getfield 86, 3) := by decide +kernel
theorem dX11_operand_218 : decode cX11_operand 218 = .ok (.iload_n 2, 1) := by decide +kernel
theorem dX11_operand_219 : decode cX11_operand 219 = .ok (.iadd, 1) := by decide +kernel
theorem dX11_operand_220 : decode cX11_operand 220 = .ok (.putfield 86, 3) := by decide +kernel
theorem dX11_operand_223 : decode cX11_operand 223 = .ok (.iconst 1, 1) := by decide +kernel
theorem dX11_operand_224 : decode cX11_operand 224 = .ok (.ireturn, 1) := by decide +kernel
theorem dX11_closes_0 : decode cX11_closes 0 = .ok (.aload_n 0, 1) := by decide +kernel
theorem dX11_closes_1 : decode cX11_closes 1 = .ok (.iconst 1, 1) := by decide +kernel
theorem dX11_closes_2 : decode cX11_closes 2 = .ok (.invokevirtual 278, 3) := by decide +kernel
theorem dX11_closes_5 : decode cX11_closes 5 = .ok (.aload_n 0, 1) := by decide +kernel
theorem dX11_closes_6 : decode cX11_closes 6 = .ok (.getfield 122, 3) := by decide +kernel
theorem dX11_closes_9 : decode cX11_closes 9 = .ok (.aload_n 0, 1) := by decide +kernel
theorem dX11_closes_10 : decode cX11_closes 10 = .ok (.getfield 129, 3) := by decide +kernel
theorem dX11_closes_13 : decode cX11_closes 13 = .ok (.iconst 1, 1) := by decide +kernel
theorem dX11_closes_14 : decode cX11_closes 14 = .ok (.isub, 1) := by decide +kernel
theorem dX11_closes_15 : decode cX11_closes 15 = .ok (.iaload, 1) := by decide +kernel
theorem dX11_closes_16 : decode cX11_closes 16 = .ok (.istore_n 1, 1) := by decide +kernel
theorem dX11_closes_17 : decode cX11_closes 17 = .ok (.iload_n 1, 1) := by decide +kernel
theorem dX11_closes_18 : decode cX11_closes 18 = .ok (.bipush 12, 2) := by decide +kernel
theorem dX11_closes_20 : decode cX11_closes 20 = .ok (.if_icmp .eq 26, 3) := by decide +kernel
theorem dX11_closes_23 : decode cX11_closes 23 = .ok (.aload_n 0, 1) := by decide +kernel
theorem dX11_closes_24 : decode cX11_closes 24 = .ok (.getfield 125, 3) := by decide +kernel
theorem dX11_closes_27 : decode cX11_closes 27 = .ok (.aload_n 0, 1) := by decide +kernel
theorem dX11_closes_28 : decode cX11_closes 28 = .ok (.getfield 129, 3) := by decide +kernel
theorem dX11_closes_31 : decode cX11_closes 31 = .ok (.iconst 1, 1) := by decide +kernel
theorem dX11_closes_32 : decode cX11_closes 32 = .ok (.isub, 1) := by decide +kernel
theorem dX11_closes_33 : decode cX11_closes 33 = .ok (.baload, 1) := by decide +kernel
theorem dX11_closes_34 : decode cX11_closes 34 = .ok (.ifCond .ne 12, 3) := by decide +kernel
theorem dX11_closes_37 : decode cX11_closes 37 = .ok (.aload_n 0, 1) := by decide +kernel
theorem dX11_closes_38 : decode cX11_closes 38 = .ok (.iconst 1, 1) := by decide +kernel
theorem dX11_closes_39 : decode cX11_closes 39 = .ok (.aload_n 0, 1) := by decide +kernel
theorem dX11_closes_40 : decode cX11_closes 40 = .ok (.getfield 86, 3) := by decide +kernel
theorem dX11_closes_43 : decode cX11_closes 43 = .ok (.invokevirtual 189, 3) := by decide +kernel
theorem dX11_closes_46 : decode cX11_closes 46 = .ok (.aload_n 0, 1) := by decide +kernel
theorem dX11_closes_47 : decode cX11_closes 47 = .ok (.getfield 92, 3) := by decide +kernel
theorem dX11_closes_50 : decode cX11_closes 50 = .ok (.ifCond .le 4, 3) := by decide +kernel
theorem dX11_closes_53 : decode cX11_closes 53 = .ok (.return_, 1) := by decide +kernel
theorem dX11_closes_54 : decode cX11_closes 54 = .ok (.aload_n 0, 1) := by decide +kernel
theorem dX11_closes_55 : decode cX11_closes 55 = .ok (.dup, 1) := by decide +kernel
theorem dX11_closes_56 : decode cX11_closes 56 = .ok (.getfield 129, 3) := by decide +kernel
theorem dX11_closes_59 : decode cX11_closes 59 = .ok (.iconst 1, 1) := by decide +kernel
theorem dX11_closes_60 : decode cX11_closes 60 = .ok (.isub, 1) := by decide +kernel
theorem dX11_closes_61 : decode cX11_closes 61 = .ok (.putfield 129, 3) := by decide +kernel
theorem dX11_closes_64 : decode cX11_closes 64 = .ok (.aload_n 0, 1) := by decide +kernel
theorem dX11_closes_65 : decode cX11_closes 65 = .ok (.dup, 1) := by decide +kernel
theorem dX11_closes_66 : decode cX11_closes 66 = .ok (.getfield 132, 3) := by decide +kernel
theorem dX11_closes_69 : decode cX11_closes 69 = .ok (.iconst 1, 1) := by decide +kernel
theorem dX11_closes_70 : decode cX11_closes 70 = .ok (.isub, 1) := by decide +kernel
theorem dX11_closes_71 : decode cX11_closes 71 = .ok (.putfield 132, 3) := by decide +kernel
theorem dX11_closes_74 : decode cX11_closes 74 = .ok (.aload_n 0, 1) := by decide +kernel
theorem dX11_closes_75 : decode cX11_closes 75 = .ok (.dup, 1) := by decide +kernel
theorem dX11_closes_76 : decode cX11_closes 76 = .ok (.getfield 86, 3) := by decide +kernel
theorem dX11_closes_79 : decode cX11_closes 79 = .ok (.iconst 1, 1) := by decide +kernel
theorem dX11_closes_80 : decode cX11_closes 80 = .ok (.iadd, 1) := by decide +kernel
theorem dX11_closes_81 : decode cX11_closes 81 = .ok (.putfield 86, 3) := by decide +kernel
theorem dX11_closes_84 : decode cX11_closes 84 = .ok (.iload_n 1, 1) := by decide +kernel
theorem dX11_closes_85 : decode cX11_closes 85 = .ok (.bipush 12, 2) := by decide +kernel
theorem dX11_closes_87 : decode cX11_closes 87 = .ok (.if_icmp .eq 9, 3) := by decide +kernel
theorem dX11_closes_90 : decode cX11_closes 90 = .ok (.aload_n 0, 1) := by decide +kernel
theorem dX11_closes_91 : decode cX11_closes 91 = .ok (.iload_n 1, 1) := by decide +kernel
theorem dX11_closes_92 : decode cX11_closes 92 = .ok (.iconst 0, 1) := by decide +kernel
theorem dX11_closes_93 : decode cX11_closes 93 = .ok (.invokevirtual 244, 3) := by decide +kernel
theorem dX11_closes_96 : decode cX11_closes 96 = .ok (.return_, 1) := by decide +kernel
theorem dX11_commas_0 : decode cX11_commas 0 = .ok (.aload_n 0, 1) := by decide +kernel
theorem dX11_commas_1 : decode cX11_commas 1 = .ok (.iconst 1, 1) := by decide +kernel
theorem dX11_commas_2 : decode cX11_commas 2 = .ok (.invokevirtual 278, 3) := by decide +kernel
theorem dX11_commas_5 : decode cX11_commas 5 = .ok (.aload_n 0, 1) := by decide +kernel
theorem dX11_commas_6 : decode cX11_commas 6 = .ok (.getfield 122, 3) := by decide +kernel
theorem dX11_commas_9 : decode cX11_commas 9 = .ok (.aload_n 0, 1) := by decide +kernel
theorem dX11_commas_10 : decode cX11_commas 10 = .ok (.getfield 129, 3) := by decide +kernel
theorem dX11_commas_13 : decode cX11_commas 13 = .ok (.iconst 1, 1) := by decide +kernel
theorem dX11_commas_14 : decode cX11_commas 14 = .ok (.isub, 1) := by decide +kernel
theorem dX11_commas_15 : decode cX11_commas 15 = .ok (.iaload, 1) := by decide +kernel
theorem dX11_commas_16 : decode cX11_commas 16 = .ok (.bipush 12, 2) := by decide +kernel
theorem dX11_commas_18 : decode cX11_commas 18 = .ok (.if_icmp .eq 17, 3) := by decide +kernel
theorem dX11_commas_21 : decode cX11_commas 21 = .ok (.aload_n 0, 1) := by decide +kernel
theorem dX11_commas_22 : decode cX11_commas 22 = .ok (.getfield 125, 3) := by decide +kernel
theorem dX11_commas_25 : decode cX11_commas 25 = .ok (.aload_n 0, 1) := by decide +kernel
theorem dX11_commas_26 : decode cX11_commas 26 = .ok (.getfield 129, 3) := by decide +kernel
theorem dX11_commas_29 : decode cX11_commas 29 = .ok (.iconst 1, 1) := by decide +kernel
theorem dX11_commas_30 : decode cX11_commas 30 = .ok (.isub, 1) := by decide +kernel
theorem dX11_commas_31 : decode cX11_commas 31 = .ok (.baload, 1) := by decide +kernel
theorem dX11_commas_32 : decode cX11_commas 32 = .ok (.ifCond .eq 12, 3) := by decide +kernel
theorem dX11_commas_35 : decode cX11_commas 35 = .ok (.aload_n 0, 1) := by decide +kernel
theorem dX11_commas_36 : decode cX11_commas 36 = .ok (.iconst 1, 1) := by decide +kernel
theorem dX11_commas_37 : decode cX11_commas 37 = .ok (.aload_n 0, 1) := by decide +kernel
theorem dX11_commas_38 : decode cX11_commas 38 = .ok (.getfield 86, 3) := by decide +kernel
theorem dX11_commas_41 : decode cX11_commas 41 = .ok (.invokevirtual 189, 3) := by decide +kernel
theorem dX11_commas_44 : decode cX11_commas 44 = .ok (.aload_n 0, 1) := by decide +kernel
theorem dX11_commas_45 : decode cX11_commas 45 = .ok (.getfield 92, 3) := by decide +kernel
theorem dX11_commas_48 : decode cX11_commas 48 = .ok (.ifCond .le 4, 3) := by decide +kernel
theorem dX11_commas_51 : decode cX11_commas 51 = .ok (.return_, 1) := by decide +kernel
theorem dX11_commas_52 : decode cX11_commas 52 = .ok (.aload_n 0, 1) := by decide +kernel
theorem dX11_commas_53 : decode cX11_commas 53 = .ok (.getfield 125, 3) := by decide +kernel
theorem dX11_commas_56 : decode cX11_commas 56 = .ok (.aload_n 0, 1) := by decide +kernel
theorem dX11_commas_57 : decode cX11_commas 57 = .ok (.getfield 129, 3) := by decide +kernel
theorem dX11_commas_60 : decode cX11_commas 60 = .ok (.iconst 1, 1) := by decide +kernel
theorem dX11_commas_61 : decode cX11_commas 61 = .ok (.isub, 1) := by decide +kernel
theorem dX11_commas_62 : decode cX11_commas 62 = .ok (.iconst 1, 1) := by decide +kernel
theorem dX11_commas_63 : decode cX11_commas 63 = .ok (.bastore, 1) := by decide +kernel
theorem dX11_commas_64 : decode cX11_commas 64 = .ok (.aload_n 0, 1) := by decide +kernel
theorem dX11_commas_65 : decode cX11_commas 65 = .ok (.dup, 1) := by decide +kernel
theorem dX11_commas_66 : decode cX11_commas 66 = .ok (.getfield 86, 3) := by decide +kernel
theorem dX11_commas_69 : decode cX11_commas 69 = .ok (.iconst 1, 1) := by decide +kernel
theorem dX11_commas_70 : decode cX11_commas 70 = .ok (.iadd, 1) := by decide +kernel
theorem dX11_commas_71 : decode cX11_commas 71 = .ok (.putfield 86, 3) := by decide +kernel
theorem dX11_commas_74 : decode cX11_commas 74 = .ok (.return_, 1) := by decide +kernel
theorem dX11_sum_0 : decode cX11_sum 0 = .ok (.aload_n 0, 1) := by decide +kernel
theorem dX11_sum_1 : decode cX11_sum 1 = .ok (.iconst 0, 1) := by decide +kernel
theorem dX11_sum_2 : decode cX11_sum 2 = .ok (.putfield 129, 3) := by decide +kernel
theorem dX11_sum_5 : decode cX11_sum 5 = .ok (.aload_n 0, 1) := by decide +kernel
theorem dX11_sum_6 : decode cX11_sum 6 = .ok (.iconst 0, 1) := by decide +kernel
theorem dX11_sum_7 : decode cX11_sum 7 = .ok (.putfield 132, 3) := by decide +kernel
theorem dX11_sum_10 : decode cX11_sum 10 = .ok (.iconst 0, 1) := by decide +kernel
theorem dX11_sum_11 : decode cX11_sum 11 = .ok (.istore_n 1, 1) := by decide +kernel
theorem dX11_sum_12 : decode cX11_sum 12 = .ok (.iconst 1, 1) := by decide +kernel
theorem dX11_sum_13 : decode cX11_sum 13 = .ok (.istore_n 2, 1) := by decide +kernel
theorem dX11_sum_14 : decode cX11_sum 14 = .ok (.iload_n 2, 1) := by decide +kernel
theorem dX11_sum_15 : decode cX11_sum 15 = .ok (.ifCond .eq 246, 3) := by decide +kernel
theorem dX11_sum_18 : decode cX11_sum 18 = .ok (.aload_n 0, 1) := by decide +kernel
theorem dX11_sum_19 : decode cX11_sum 19 = .ok (.getfield 92, 3) := by decide +kernel
theorem dX11_sum_22 : decode cX11_sum 22 = .ok (.ifCond .ne 239, 3) := by decide +kernel
theorem dX11_sum_25 : decode cX11_sum 25 = .ok (.iload_n 1, 1) := by decide +kernel
theorem dX11_sum_26 : decode cX11_sum 26 = .ok (.ifCond .ne 11, 3) := by decide +kernel
theorem dX11_sum_29 : decode cX11_sum 29 = .ok (.aload_n 0, 1) := by decide +kernel
theorem dX11_sum_30 : decode cX11_sum 30 = .ok (.invokevirtual 282, 3) := by decide +kernel
theorem dX11_sum_33 : decode cX11_sum 33 = .ok (.istore_n 1, 1) := by decide +kernel
theorem dX11_sum_34 : decode cX11_sum 34 = .ok (.goto (-20), 3) := by decide +kernel
theorem dX11_sum_37 : decode cX11_sum 37 = .ok (.aload_n 0, 1) := by decide +kernel
theorem dX11_sum_38 : decode cX11_sum 38 = .ok (.invokevirtual 186, 3) := by decide +kernel
theorem dX11_sum_41 : decode cX11_sum 41 = .ok (.istore_n 3, 1) := by decide +kernel
theorem dX11_sum_42 : decode cX11_sum 42 = .ok (.iload_n 3, 1) := by decide +kernel
theorem dX11_sum_43 : decode cX11_sum 43 = .ok (.bipush 43, 2) := by decide +kernel
theorem dX11_sum_45 : decode cX11_sum 45 = .ok (.if_icmp .eq 15, 3) := by decide +kernel
theorem dX11_sum_48 : decode cX11_sum 48 = .ok (.iload_n 3, 1) := by decide +kernel
theorem dX11_sum_49 : decode cX11_sum 49 = .ok (.bipush 45, 2) := by decide +kernel
theorem dX11_sum_51 : decode cX11_sum 51 = .ok (.if_icmp .eq 9, 3) := by decide +kernel
theorem dX11_sum_54 : decode cX11_sum 54 = .ok (.iload_n 3, 1) := by decide +kernel
theorem dX11_sum_55 : decode cX11_sum 55 = .ok (.bipush 42, 2) := by decide +kernel
theorem dX11_sum_57 : decode cX11_sum 57 = .ok (.if_icmp .ne 73, 3) := by decide +kernel
theorem dX11_sum_60 : decode cX11_sum 60 = .ok (.aload_n 0, 1) := by decide +kernel
theorem dX11_sum_61 : decode cX11_sum 61 = .ok (.iload_n 3, 1) := by decide +kernel
theorem dX11_sum_62 : decode cX11_sum 62 = .ok (.bipush 42, 2) := by decide +kernel
theorem dX11_sum_64 : decode cX11_sum 64 = .ok (.if_icmp .eq 7, 3) := by decide +kernel
theorem dX11_sum_67 : decode cX11_sum 67 = .ok (.iconst 1, 1) := by decide +kernel
theorem dX11_sum_68 : decode cX11_sum 68 = .ok (.goto 4, 3) := by decide +kernel
theorem dX11_sum_71 : decode cX11_sum 71 = .ok (.iconst 0, 1) := by decide +kernel
theorem dX11_sum_72 : decode cX11_sum 72 = .ok (.invokevirtual 278, 3) := by decide +kernel
theorem dX11_sum_75 : decode cX11_sum 75 = .ok (.aload_n 0, 1) := by decide +kernel
theorem dX11_sum_76 : decode cX11_sum 76 = .ok (.getfield 122, 3) := by decide +kernel
theorem dX11_sum_79 : decode cX11_sum 79 = .ok (.aload_n 0, 1) := by decide +kernel
theorem dX11_sum_80 : decode cX11_sum 80 = .ok (.getfield 129, 3) := by decide +kernel
theorem dX11_sum_83 : decode cX11_sum 83 = .ok (.iload_n 3, 1) := by decide +kernel
theorem dX11_sum_84 : decode cX11_sum 84 = .ok (.bipush 43, 2) := by decide +kernel
theorem dX11_sum_86 : decode cX11_sum 86 = .ok (.if_icmp .ne 7, 3) := by decide +kernel
theorem dX11_sum_89 : decode cX11_sum 89 = .ok (.iconst 3, 1) := by decide +kernel
theorem dX11_sum_90 : decode cX11_sum 90 = .ok (.goto 14, 3) := by decide +kernel
theorem dX11_sum_93 : decode cX11_sum 93 = .ok (.iload_n 3, 1) := by decide +kernel
theorem dX11_sum_94 : decode cX11_sum 94 = .ok (.bipush 45, 2) := by decide +kernel
theorem dX11_sum_96 : decode cX11_sum 96 = .ok (.if_icmp .ne 7, 3) := by decide +kernel
theorem dX11_sum_99 : decode cX11_sum 99 = .ok (.iconst 4, 1) := by decide +kernel
theorem dX11_sum_100 : decode cX11_sum 100 = .ok (.goto 4, 3) := by decide +kernel
theorem dX11_sum_103 : decode cX11_sum 103 = .ok (.iconst 5, 1) := by decide +kernel
theorem dX11_sum_104 : decode cX11_sum 104 = .ok (.iastore, 1) := by decide +kernel
theorem dX11_sum_105 : decode cX11_sum 105 = .ok (.aload_n 0, 1) := by decide +kernel
theorem dX11_sum_106 : decode cX11_sum 106 = .ok (.dup, 1) := by decide +kernel
theorem dX11_sum_107 : decode cX11_sum 107 = .ok (.getfield 129, 3) := by decide +kernel
theorem dX11_sum_110 : decode cX11_sum 110 = .ok (.iconst 1, 1) := by decide +kernel
theorem dX11_sum_111 : decode cX11_sum 111 = .ok (.iadd, 1) := by decide +kernel
theorem dX11_sum_112 : decode cX11_sum 112 = .ok (.putfield 129, 3) := by decide +kernel
theorem dX11_sum_115 : decode cX11_sum 115 = .ok (.aload_n 0, 1) := by decide +kernel
theorem dX11_sum_116 : decode cX11_sum 116 = .ok (.dup, 1) := by decide +kernel
theorem dX11_sum_117 : decode cX11_sum 117 = .ok (.getfield 86, 3) := by decide +kernel
theorem dX11_sum_120 : decode cX11_sum 120 = .ok (.iconst 1, 1) := by decide +kernel
theorem dX11_sum_121 : decode cX11_sum 121 = .ok (.iadd, 1) := by decide +kernel
theorem dX11_sum_122 : decode cX11_sum 122 = .ok (.putfield 86, 3) := by decide +kernel
theorem dX11_sum_125 : decode cX11_sum 125 = .ok (.iconst 0, 1) := by decide +kernel
theorem dX11_sum_126 : decode cX11_sum 126 = .ok (.istore_n 1, 1) := by decide +kernel
theorem dX11_sum_127 : decode cX11_sum 127 = .ok (.goto 131, 3) := by decide +kernel
theorem dX11_sum_130 : decode cX11_sum 130 = .ok (.iload_n 3, 1) := by decide +kernel
theorem dX11_sum_131 : decode cX11_sum 131 = .ok (.bipush 47, 2) := by decide +kernel
theorem dX11_sum_133 : decode cX11_sum 133 = .ok (.if_icmp .ne 65, 3) := by decide +kernel
theorem dX11_sum_136 : decode cX11_sum 136 = .ok (.aload_n 0, 1) := by decide +kernel
theorem dX11_sum_137 : decode cX11_sum 137 = .ok (.iconst 0, 1) := by decide +kernel
theorem dX11_sum_138 : decode cX11_sum 138 = .ok (.invokevirtual 278, 3) := by decide +kernel
theorem dX11_sum_141 : decode cX11_sum 141 = .ok (.aload_n 0, 1) := by decide +kernel
theorem dX11_sum_142 : decode cX11_sum 142 = .ok (.dup, 1) := by decide +kernel
theorem dX11_sum_143 : decode cX11_sum 143 = .ok (.getfield 86, 3) := by decide +kernel
theorem dX11_sum_146 : decode cX11_sum 146 = .ok (.iconst 1, 1) := by decide +kernel
theorem dX11_sum_147 : decode cX11_sum 147 = .ok (.iadd, 1) := by decide +kernel
theorem dX11_sum_148 : decode cX11_sum 148 = .ok (.putfield 86, 3) := by decide +kernel
theorem dX11_sum_151 : decode cX11_sum 151 = .ok (.aload_n 0, 1) := by decide +kernel
theorem dX11_sum_152 : decode cX11_sum 152 = .ok (.invokevirtual 186, 3) := by decide +kernel
theorem dX11_sum_155 : decode cX11_sum 155 = .ok (.pop, 1) := by decide +kernel
theorem dX11_sum_156 : decode cX11_sum 156 = .ok (.aload_n 0, 1) := by decide +kernel
theorem dX11_sum_157 : decode cX11_sum 157 = .ok (.getfield 86, 3) := by decide +kernel
theorem dX11_sum_160 : decode cX11_sum 160 = .ok (.istore 4, 2) := by decide +kernel
theorem dX11_sum_162 : decode cX11_sum 162 = .ok (.aload_n 0, 1) := by decide +kernel
theorem dX11_sum_163 : decode cX11_sum 163 = .ok (.invokevirtual 247, 3) := by decide +kernel
theorem dX11_sum_166 : decode cX11_sum 166 = .ok (.istore 5, 2) := by decide +kernel
theorem dX11_sum_168 : decode cX11_sum 168 = .ok (.aload_n 0, 1) := by decide +kernel
theorem dX11_sum_169 : decode cX11_sum 169 = .ok (.getfield 92, 3) := by decide +kernel
theorem dX11_sum_172 : decode cX11_sum 172 = .ok (.ifCond .ne 15, 3) := by decide +kernel
theorem dX11_sum_175 : decode cX11_sum 175 = .ok (.iload 5, 2) := by decide +kernel
theorem dX11_sum_177 : decode cX11_sum 177 = .ok (.ifCond .ne 10, 3) := by decide +kernel
theorem dX11_sum_180 : decode cX11_sum 180 = .ok (.aload_n 0, 1) := by decide +kernel
theorem dX11_sum_181 : decode cX11_sum 181 = .ok (.iconst 2, 1) := by decide +kernel
theorem dX11_sum_182 : decode cX11_sum 182 = .ok (.iload 4, 2) := by decide +kernel
theorem dX11_sum_184 : decode cX11_sum 184 = .ok (.invokevirtual 189, 3) := by decide +kernel
theorem dX11_sum_187 : decode cX11_sum 187 = .ok (.aload_n 0, 1) := by decide +kernel
theorem dX11_sum_188 : decode cX11_sum 188 = .ok (.bipush 6, 2) := by decide +kernel
theorem dX11_sum_190 : decode cX11_sum 190 = .ok (.iload 5, 2) := by decide +kernel
theorem dX11_sum_192 : decode cX11_sum 192 = .ok (.invokevirtual 244, 3) := by decide +kernel
theorem dX11_sum_195 : decode cX11_sum 195 = .ok (.goto 63, 3) := by decide +kernel
theorem dX11_sum_198 : decode cX11_sum 198 = .ok (.iload_n 3, 1) := by decide +kernel
theorem dX11_sum_199 : decode cX11_sum 199 = .ok (.bipush 41, 2) := by decide +kernel
theorem dX11_sum_201 : decode cX11_sum 201 = .ok (.if_icmp .ne 17, 3) := by decide +kernel
theorem dX11_sum_204 : decode cX11_sum 204 = .ok (.aload_n 0, 1) := by decide +kernel
theorem dX11_sum_205 : decode cX11_sum 205 = .ok (.getfield 132, 3) := by decide +kernel
theorem dX11_sum_208 : decode cX11_sum 208 = .ok (.ifCond .le 10, 3) := by decide +kernel
theorem dX11_sum_211 : decode cX11_sum 211 = .ok (.aload_n 0, 1) := by decide +kernel
theorem dX11_sum_212 : decode cX11_sum 212 = .ok (.invokevirtual 286, 3) := by decide +kernel
theorem dX11_sum_215 : decode cX11_sum 215 = .ok (.goto 43, 3) := by decide +kernel
theorem dX11_sum_218 : decode cX11_sum 218 = .ok (.iload_n 3, 1) := by decide +kernel
theorem dX11_sum_219 : decode cX11_sum 219 = .ok (.bipush 44, 2) := by decide +kernel
theorem dX11_sum_221 : decode cX11_sum 221 = .ok (.if_icmp .ne 19, 3) := by decide +kernel
theorem dX11_sum_224 : decode cX11_sum 224 = .ok (.aload_n 0, 1) := by decide +kernel
theorem dX11_sum_225 : decode cX11_sum 225 = .ok (.getfield 132, 3) := by decide +kernel
theorem dX11_sum_228 : decode cX11_sum 228 = .ok (.ifCond .le 12, 3) := by decide +kernel
theorem dX11_sum_231 : decode cX11_sum 231 = .ok (.aload_n 0, 1) := by decide +kernel
theorem dX11_sum_232 : decode cX11_sum 232 = .ok (.invokevirtual 289, 3) := by decide +kernel
theorem dX11_sum_235 : decode cX11_sum 235 = .ok (.iconst 0, 1) := by decide +kernel
theorem dX11_sum_236 : decode cX11_sum 236 = .ok (.istore_n 1, 1) := by decide +kernel
theorem dX11_sum_237 : decode cX11_sum 237 = .ok (.goto 21, 3) := by decide +kernel
theorem dX11_sum_240 : decode cX11_sum 240 = .ok (.iconst 0, 1) := by decide +kernel
theorem dX11_sum_241 : decode cX11_sum 241 = .ok (.istore_n 2, 1) := by decide +kernel
theorem dX11_sum_242 : decode cX11_sum 242 = .ok (.aload_n 0, 1) := by decide +kernel
theorem dX11_sum_243 : decode cX11_sum 243 = .ok (.getfield 132, 3) := by decide +kernel
theorem dX11_sum_246 : decode cX11_sum 246 = .ok (.ifCond .le 12, 3) := by decide +kernel
theorem dX11_sum_249 : decode cX11_sum 249 = .ok (.aload_n 0, 1) := by decide +kernel
theorem dX11_sum_250 : decode cX11_sum 250 = .ok (.iconst 1, 1) := by decide +kernel
theorem dX11_sum_251 : decode cX11_sum 251 = .ok (.aload_n 0, 1) := by decide +kernel
theorem dX11_sum_252 : decode cX11_sum 252 = .ok (.getfield 86, 3) := by decide +kernel
theorem dX11_sum_255 : decode cX11_sum 255 = .ok (.invokevirtual 189, 3) := by decide +kernel
theorem dX11_sum_258 : decode cX11_sum 258 = .ok (.goto (-244), 3) := by decide +kernel
theorem dX11_sum_261 : decode cX11_sum 261 = .ok (.aload_n 0, 1) := by decide +kernel
theorem dX11_sum_262 : decode cX11_sum 262 = .ok (.getfield 92, 3) := by decide +kernel
theorem dX11_sum_265 : decode cX11_sum 265 = .ok (.ifCond .ne 8, 3) := by decide +kernel
theorem dX11_sum_268 : decode cX11_sum 268 = .ok (.aload_n 0, 1) := by decide +kernel
theorem dX11_sum_269 : decode cX11_sum 269 = .ok (.iconst 1, 1) := by decide +kernel
theorem dX11_sum_270 : decode cX11_sum 270 = .ok (.invokevirtual 278, 3) := by decide +kernel
theorem dX11_sum_273 : decode cX11_sum 273 = .ok (.return_, 1) := by decide +kernel
theorem dX11_statement_0 : decode cX11_statement 0 = .ok (.aload_n 0, 1) := by decide +kernel
theorem dX11_statement_1 : decode cX11_statement 1 = .ok (.invokevirtual 253, 3) := by decide +kernel
theorem dX11_statement_4 : decode cX11_statement 4 = .ok (.istore_n 1, 1) := by decide +kernel
theorem dX11_statement_5 : decode cX11_statement 5 = .ok (.aload_n 0, 1) := by decide +kernel
theorem dX11_statement_6 : decode cX11_statement 6 = .ok (.getfield 86, 3) := by decide +kernel
theorem dX11_statement_9 : decode cX11_statement 9 = .ok (.istore_n 2, 1) := by decide +kernel
theorem dX11_statement_10 : decode cX11_statement 10 = .ok (.iload_n 1, 1) := by decide +kernel
theorem dX11_statement_11 : decode cX11_statement 11 = .ok (.ifCond .eq 12, 3) := by decide +kernel
theorem dX11_statement_14 : decode cX11_statement 14 = .ok (.aload_n 0, 1) := by decide +kernel
theorem dX11_statement_15 : decode cX11_statement 15 = .ok (.getfield 98, 3) := by decide +kernel
theorem dX11_statement_18 : decode cX11_statement 18 = .ok (.bipush 24, 2) := by decide +kernel
theorem dX11_statement_20 : decode cX11_statement 20 = .ok (.if_icmp .ne 9, 3) := by decide +kernel
theorem dX11_statement_23 : decode cX11_statement 23 = .ok (.aload_n 0, 1) := by decide +kernel
theorem dX11_statement_24 : decode cX11_statement 24 = .ok (.iconst 1, 1) := by decide +kernel
theorem dX11_statement_25 : decode cX11_statement 25 = .ok (.iload_n 2, 1) := by decide +kernel
theorem dX11_statement_26 : decode cX11_statement 26 = .ok (.invokevirtual 189, 3) := by decide +kernel
theorem dX11_statement_29 : decode cX11_statement 29 = .ok (.aload_n 0, 1) := by decide +kernel
theorem dX11_statement_30 : decode cX11_statement 30 = .ok (.iload_n 2, 1) := by decide +kernel
theorem dX11_statement_31 : decode cX11_statement 31 = .ok (.iload_n 1, 1) := by decide +kernel
theorem dX11_statement_32 : decode cX11_statement 32 = .ok (.invokevirtual 259, 3) := by decide +kernel
theorem dX11_statement_35 : decode cX11_statement 35 = .ok (.ifCond .ne 21, 3) := by decide +kernel
theorem dX11_statement_38 : decode cX11_statement 38 = .ok (.aload_n 0, 1) := by decide +kernel
theorem dX11_statement_39 : decode cX11_statement 39 = .ok (.iload_n 2, 1) := by decide +kernel
theorem dX11_statement_40 : decode cX11_statement 40 = .ok (.iload_n 1, 1) := by decide +kernel
theorem dX11_statement_41 : decode cX11_statement 41 = .ok (.invokevirtual 265, 3) := by decide +kernel
theorem dX11_statement_44 : decode cX11_statement 44 = .ok (.ifCond .ne 12, 3) := by decide +kernel
theorem dX11_statement_47 : decode cX11_statement 47 = .ok (.aload_n 0, 1) := by decide +kernel
theorem dX11_statement_48 : decode cX11_statement 48 = .ok (.iload_n 2, 1) := by decide +kernel
theorem dX11_statement_49 : decode cX11_statement 49 = .ok (.iload_n 1, 1) := by decide +kernel
theorem dX11_statement_50 : decode cX11_statement 50 = .ok (.invokevirtual 268, 3) := by decide +kernel
theorem dX11_statement_53 : decode cX11_statement 53 = .ok (.ifCond .eq 9, 3) := by decide +kernel
theorem dX11_statement_56 : decode cX11_statement 56 = .ok (.aload_n 0, 1) := by decide +kernel
theorem dX11_statement_57 : decode cX11_statement 57 = .ok (.iconst 1, 1) := by decide +kernel
theorem dX11_statement_58 : decode cX11_statement 58 = .ok (.iload_n 2, 1) := by decide +kernel
theorem dX11_statement_59 : decode cX11_statement 59 = .ok (.invokevirtual 189, 3) := by decide +kernel
theorem dX11_statement_62 : decode cX11_statement 62 = .ok (.iload_n 1, 1) := by decide +kernel
theorem dX11_statement_63 : decode cX11_statement 63 = .ok (.bipush 10, 2) := by decide +kernel
theorem dX11_statement_65 : decode cX11_statement 65 = .ok (.if_icmp .le 12, 3) := by decide +kernel
theorem dX11_statement_68 : decode cX11_statement 68 = .ok (.aload_n 0, 1) := by decide +kernel
theorem dX11_statement_69 : decode cX11_statement 69 = .ok (.iconst 1, 1) := by decide +kernel
theorem dX11_statement_70 : decode cX11_statement 70 = .ok (.iload_n 2, 1) := by decide +kernel
theorem dX11_statement_71 : decode cX11_statement 71 = .ok (.bipush 10, 2) := by decide +kernel
theorem dX11_statement_73 : decode cX11_statement 73 = .ok (.iadd, 1) := by decide +kernel
theorem dX11_statement_74 : decode cX11_statement 74 = .ok (.invokevirtual 189, 3) := by decide +kernel
theorem dX11_statement_77 : decode cX11_statement 77 = .ok (.aload_n 0, 1) := by decide +kernel
theorem dX11_statement_78 : decode cX11_statement 78 = .ok (.getfield 92, 3) := by decide +kernel
theorem dX11_statement_81 : decode cX11_statement 81 = .ok (.ifCond .le 4, 3) := by decide +kernel
theorem dX11_statement_84 : decode cX11_statement 84 = .ok (.return_, 1) := by decide +kernel
theorem dX11_statement_85 : decode cX11_statement 85 = .ok (.aload_n 0, 1) := by decide +kernel
theorem dX11_statement_86 : decode cX11_statement 86 = .ok (.getfield 110, 3) := by decide +kernel
theorem dX11_statement_89 : decode cX11_statement 89 = .ok (.aload_n 0, 1) := by decide +kernel
theorem dX11_statement_90 : decode cX11_statement 90 = .ok (.getfield 98, 3) := by decide +kernel
theorem dX11_statement_93 : decode cX11_statement 93 = .ok (.aload_n 0, 1) := by decide +kernel
theorem dX11_statement_94 : decode cX11_statement 94 = .ok (.getfield 101, 3) := by decide +kernel
theorem dX11_statement_97 : decode cX11_statement 97 = .ok (.iastore, 1) := by decide +kernel
theorem dX11_statement_98 : decode cX11_statement 98 = .ok (.aload_n 0, 1) := by decide +kernel
theorem dX11_statement_99 : decode cX11_statement 99 = .ok (.dup, 1) := by decide +kernel
theorem dX11_statement_100 : decode cX11_statement 100 = .ok (.getfield 86, 3) := by decide +kernel
theorem dX11_statement_103 : decode cX11_statement 103 = .ok (.iload_n 1, 1) := by decide +kernel
theorem dX11_statement_104 : decode cX11_statement 104 = .ok (.iadd, 1) := by decide +kernel
theorem dX11_statement_105 : decode cX11_statement 105 = .ok (.putfield 86, 3) := by decide +kernel
theorem dX11_statement_108 : decode cX11_statement 108 = .ok (.aload_n 0, 1) := by decide +kernel
theorem dX11_statement_109 : decode cX11_statement 109 = .ok (.iload_n 2, 1) := by decide +kernel
theorem dX11_statement_110 : decode cX11_statement 110 = .ok (.iload_n 1, 1) := by decide +kernel
theorem dX11_statement_111 : decode cX11_statement 111 = .ok (.invokevirtual 256, 3) := by decide +kernel
theorem dX11_statement_114 : decode cX11_statement 114 = .ok (.ifCond .eq 160, 3) := by decide +kernel
theorem dX11_statement_117 : decode cX11_statement 117 = .ok (.aload_n 0, 1) := by decide +kernel
theorem dX11_statement_118 : decode cX11_statement 118 = .ok (.getfield 107, 3) := by decide +kernel
theorem dX11_statement_121 : decode cX11_statement 121 = .ok (.aload_n 0, 1) := by decide +kernel
theorem dX11_statement_122 : decode cX11_statement 122 = .ok (.getfield 98, 3) := by decide +kernel
theorem dX11_statement_125 : decode cX11_statement 125 = .ok (.iconst 1, 1) := by decide +kernel
theorem dX11_statement_126 : decode cX11_statement 126 = .ok (.iastore, 1) := by decide +kernel
theorem dX11_statement_127 : decode cX11_statement 127 = .ok (.aload_n 0, 1) := by decide +kernel
theorem dX11_statement_128 : decode cX11_statement 128 = .ok (.invokevirtual 253, 3) := by decide +kernel
theorem dX11_statement_131 : decode cX11_statement 131 = .ok (.istore_n 3, 1) := by decide +kernel
theorem dX11_statement_132 : decode cX11_statement 132 = .ok (.aload_n 0, 1) := by decide +kernel
theorem dX11_statement_133 : decode cX11_statement 133 = .ok (.aload_n 0, 1) := by decide +kernel
theorem dX11_statement_134 : decode cX11_statement 134 = .ok (.getfield 86, 3) := by decide +kernel
theorem dX11_statement_137 : decode cX11_statement 137 = .ok (.iload_n 3, 1) := by decide +kernel
theorem dX11_statement_138 : decode cX11_statement 138 = .ok (.invokevirtual 259, 3) := by decide +kernel
theorem dX11_statement_141 : decode cX11_statement 141 = .ok (.ifCond .ne 12, 3) := by decide +kernel
theorem dX11_statement_144 : decode cX11_statement 144 = .ok (.aload_n 0, 1) := by decide +kernel
theorem dX11_statement_145 : decode cX11_statement 145 = .ok (.iconst 1, 1) := by decide +kernel
theorem dX11_statement_146 : decode cX11_statement 146 = .ok (.aload_n 0, 1) := by decide +kernel
theorem dX11_statement_147 : decode cX11_statement 147 = .ok (.getfield 86, 3) := by decide +kernel
theorem dX11_statement_150 : decode cX11_statement 150 = .ok (.invokevirtual 189, 3) := by decide +kernel
theorem dX11_statement_153 : decode cX11_statement 153 = .ok (.aload_n 0, 1) := by decide +kernel
theorem dX11_statement_154 : decode cX11_statement 154 = .ok (.getfield 92, 3) := by decide +kernel
theorem dX11_statement_157 : decode cX11_statement 157 = .ok (.ifCond .le 4, 3) := by decide +kernel
theorem dX11_statement_160 : decode cX11_statement 160 = .ok (.return_, 1) := by decide +kernel
theorem dX11_statement_161 : decode cX11_statement 161 = .ok (.aload_n 0, 1) := by decide +kernel
theorem dX11_statement_162 : decode cX11_statement 162 = .ok (.dup, 1) := by decide +kernel
theorem dX11_statement_163 : decode cX11_statement 163 = .ok (.getfield 86, 3) := by decide +kernel
theorem dX11_statement_166 : decode cX11_statement 166 = .ok (.iload_n 3, 1) := by decide +kernel
theorem dX11_statement_167 : decode cX11_statement 167 = .ok (.iadd, 1) := by decide +kernel
theorem dX11_statement_168 : decode cX11_statement 168 = .ok (.putfield 86, 3) := by decide +kernel
theorem dX11_statement_171 : decode cX11_statement 171 = .ok (.aload_n 0, 1) := by decide +kernel
theorem dX11_statement_172 : decode cX11_statement 172 = .ok (.invokevirtual 292, 3) := by decide +kernel
theorem dX11_statement_175 : decode cX11_statement 175 = .ok (.aload_n 0, 1) := by decide +kernel
theorem dX11_statement_176 : decode cX11_statement 176 = .ok (.getfield 92, 3) := by decide +kernel
theorem dX11_statement_179 : decode cX11_statement 179 = .ok (.ifCond .le 4, 3) := by decide +kernel
theorem dX11_statement_182 : decode cX11_statement 182 = .ok (.return_, 1) := by decide +kernel
theorem dX11_statement_183 : decode cX11_statement 183 = .ok (.aload_n 0, 1) := by decide +kernel
theorem dX11_statement_184 : decode cX11_statement 184 = .ok (.invokevirtual 186, 3) := by decide +kernel
theorem dX11_statement_187 : decode cX11_statement 187 = .ok (.istore 4, 2) := by decide +kernel
theorem dX11_statement_189 : decode cX11_statement 189 = .ok (.iload 4, 2) := by decide +kernel
theorem dX11_statement_191 : decode cX11_statement 191 = .ok (.bipush 60, 2) := by decide +kernel
theorem dX11_statement_193 : decode cX11_statement 193 = .ok (.if_icmp .eq 26, 3) := by decide +kernel
theorem dX11_statement_196 : decode cX11_statement 196 = .ok (.iload 4, 2) := by decide +kernel
theorem dX11_statement_198 : decode cX11_statement 198 = .ok (.bipush 62, 2) := by decide +kernel
theorem dX11_statement_200 : decode cX11_statement 200 = .ok (.if_icmp .eq 19, 3) := by decide +kernel
theorem dX11_statement_203 : decode cX11_statement 203 = .ok (.iload 4, 2) := by decide +kernel
theorem dX11_statement_205 : decode cX11_statement 205 = .ok (.bipush 61, 2) := by decide +kernel
theorem dX11_statement_207 : decode cX11_statement 207 = .ok (.if_icmp .eq 12, 3) := by decide +kernel
theorem dX11_statement_210 : decode cX11_statement 210 = .ok (.aload_n 0, 1) := by decide +kernel
theorem dX11_statement_211 : decode cX11_statement 211 = .ok (.iconst 1, 1) := by decide +kernel
theorem dX11_statement_212 : decode cX11_statement 212 = .ok (.aload_n 0, 1) := by decide +kernel
theorem dX11_statement_213 : decode cX11_statement 213 = .ok (.getfield 86, 3) := by decide +kernel
theorem dX11_statement_216 : decode cX11_statement 216 = .ok (.invokevirtual 189, 3) := by decide +kernel
theorem dX11_statement_219 : decode cX11_statement 219 = .ok (.aload_n 0, 1) := by decide +kernel
theorem dX11_statement_220 : decode cX11_statement 220 = .ok (.dup, 1) := by decide +kernel
theorem dX11_statement_221 : decode cX11_statement 221 = .ok (.getfield 86, 3) := by decide +kernel
theorem dX11_statement_224 : decode cX11_statement 224 = .ok (.iconst 1, 1) := by decide +kernel
theorem dX11_statement_225 : decode cX11_statement 225 = .ok (.iadd, 1) := by decide +kernel
theorem dX11_statement_226 : decode cX11_statement 226 = .ok (.putfield 86, 3) := by decide +kernel
theorem dX11_statement_229 : decode cX11_statement 229 = .ok (.aload_n 0, 1) := by decide +kernel
theorem dX11_statement_230 : decode cX11_statement 230 = .ok (.getfield 92, 3) := by decide +kernel
theorem dX11_statement_233 : decode cX11_statement 233 = .ok (.ifCond .ne 7, 3) := by decide +kernel
theorem dX11_statement_236 : decode cX11_statement 236 = .ok (.aload_n 0, 1) := by decide +kernel
theorem dX11_statement_237 : decode cX11_statement 237 = .ok (.invokevirtual 292, 3) := by decide +kernel
theorem dX11_statement_240 : decode cX11_statement 240 = .ok (.aload_n 0, 1) := by decide +kernel
theorem dX11_statement_241 : decode cX11_statement 241 = .ok (.iload 4, 2) := by decide +kernel
theorem dX11_statement_243 : decode cX11_statement 243 = .ok (.bipush 60, 2) := by decide +kernel
theorem dX11_statement_245 : decode cX11_statement 245 = .ok (.if_icmp .ne 8, 3) := by decide +kernel
theorem dX11_statement_248 : decode cX11_statement 248 = .ok (.bipush 9, 2) := by decide +kernel
theorem dX11_statement_250 : decode cX11_statement 250 = .ok (.goto 17, 3) := by decide +kernel
theorem dX11_statement_253 : decode cX11_statement 253 = .ok (.iload 4, 2) := by decide +kernel
theorem dX11_statement_255 : decode cX11_statement 255 = .ok (.bipush 62, 2) := by decide +kernel
theorem dX11_statement_257 : decode cX11_statement 257 = .ok (.if_icmp .ne 8, 3) := by decide +kernel
theorem dX11_statement_260 : decode cX11_statement 260 = .ok (.bipush 10, 2) := by decide +kernel
theorem dX11_statement_262 : decode cX11_statement 262 = .ok (.goto 5, 3) := by decide +kernel
theorem dX11_statement_265 : decode cX11_statement 265 = .ok (.bipush 11, 2) := by decide +kernel
theorem dX11_statement_267 : decode cX11_statement 267 = .ok (.iconst 0, 1) := by decide +kernel
theorem dX11_statement_268 : decode cX11_statement 268 = .ok (.invokevirtual 244, 3) := by decide +kernel
theorem dX11_statement_271 : decode cX11_statement 271 = .ok (.goto 156, 3) := by decide +kernel
theorem dX11_statement_274 : decode cX11_statement 274 = .ok (.aload_n 0, 1) := by decide +kernel
theorem dX11_statement_275 : decode cX11_statement 275 = .ok (.iload_n 2, 1) := by decide +kernel
theorem dX11_statement_276 : decode cX11_statement 276 = .ok (.iload_n 1, 1) := by decide +kernel
theorem dX11_statement_277 : decode cX11_statement 277 = .ok (.invokevirtual 262, 3) := by decide +kernel
theorem dX11_statement_280 : decode cX11_statement 280 = .ok (.ifCond .eq 20, 3) := by decide +kernel
theorem dX11_statement_283 : decode cX11_statement 283 = .ok (.aload_n 0, 1) := by decide +kernel
theorem dX11_statement_284 : decode cX11_statement 284 = .ok (.getfield 107, 3) := by decide +kernel
theorem dX11_statement_287 : decode cX11_statement 287 = .ok (.aload_n 0, 1) := by decide +kernel
theorem dX11_statement_288 : decode cX11_statement 288 = .ok (.getfield 98, 3) := by decide +kernel
theorem dX11_statement_291 : decode cX11_statement 291 = .ok (.iconst 2, 1) := by decide +kernel
theorem dX11_statement_292 : decode cX11_statement 292 = .ok (.iastore, 1) := by decide +kernel
theorem dX11_statement_293 : decode cX11_statement 293 = .ok (.aload_n 0, 1) := by decide +kernel
theorem dX11_statement_294 : decode cX11_statement 294 = .ok (.invokevirtual 292, 3) := by decide +kernel
theorem dX11_statement_297 : decode cX11_statement 297 = .ok (.goto 130, 3) := by decide +kernel
theorem dX11_statement_300 : decode cX11_statement 300 = .ok (.aload_n 0, 1) := by decide +kernel
theorem dX11_statement_301 : decode cX11_statement 301 = .ok (.iload_n 2, 1) := by decide +kernel
theorem dX11_statement_302 : decode cX11_statement 302 = .ok (.iload_n 1, 1) := by decide +kernel
theorem dX11_statement_303 : decode cX11_statement 303 = .ok (.invokevirtual 271, 3) := by decide +kernel
theorem dX11_statement_306 : decode cX11_statement 306 = .ok (.iconst (-1), 1) := by decide +kernel
theorem dX11_statement_307 : decode cX11_statement 307 = .ok (.if_icmp .ne 13, 3) := by decide +kernel
theorem dX11_statement_310 : decode cX11_statement 310 = .ok (.aload_n 0, 1) := by decide +kernel
theorem dX11_statement_311 : decode cX11_statement 311 = .ok (.iload_n 2, 1) := by decide +kernel
theorem dX11_statement_312 : decode cX11_statement 312 = .ok (.iload_n 1, 1) := by decide +kernel
theorem dX11_statement_313 : decode cX11_statement 313 = .ok (.invokevirtual 275, 3) := by decide +kernel
theorem dX11_statement_316 : decode cX11_statement 316 = .ok (.iconst (-1), 1) := by decide +kernel
theorem dX11_statement_317 : decode cX11_statement 317 = .ok (.if_icmp .eq 9, 3) := by decide +kernel
theorem dX11_statement_320 : decode cX11_statement 320 = .ok (.aload_n 0, 1) := by decide +kernel
theorem dX11_statement_321 : decode cX11_statement 321 = .ok (.iconst 3, 1) := by decide +kernel
theorem dX11_statement_322 : decode cX11_statement 322 = .ok (.iload_n 2, 1) := by decide +kernel
theorem dX11_statement_323 : decode cX11_statement 323 = .ok (.invokevirtual 189, 3) := by decide +kernel
theorem dX11_statement_326 : decode cX11_statement 326 = .ok (.aload_n 0, 1) := by decide +kernel
theorem dX11_statement_327 : decode cX11_statement 327 = .ok (.getfield 92, 3) := by decide +kernel
theorem dX11_statement_330 : decode cX11_statement 330 = .ok (.ifCond .le 4, 3) := by decide +kernel
theorem dX11_statement_333 : decode cX11_statement 333 = .ok (.return_, 1) := by decide +kernel
theorem dX11_statement_334 : decode cX11_statement 334 = .ok (.aload_n 0, 1) := by decide +kernel
theorem dX11_statement_335 : decode cX11_statement 335 = .ok (.getfield 107, 3) := by decide +kernel
theorem dX11_statement_338 : decode cX11_statement 338 = .ok (.aload_n 0, 1) := by decide +kernel
theorem dX11_statement_339 : decode cX11_statement 339 = .ok (.getfield 98, 3) := by decide +kernel
theorem dX11_statement_342 : decode cX11_statement 342 = .ok (.iconst 0, 1) := by decide +kernel
theorem dX11_statement_343 : decode cX11_statement 343 = .ok (.iastore, 1) := by decide +kernel
theorem dX11_statement_344 : decode cX11_statement 344 = .ok (.aload_n 0, 1) := by decide +kernel
theorem dX11_statement_345 : decode cX11_statement 345 = .ok (.getfield 119, 3) := by decide +kernel
theorem dX11_statement_348 : decode cX11_statement 348 = .ok (.aload_n 0, 1) := by decide +kernel
theorem dX11_statement_349 : decode cX11_statement 349 = .ok (.getfield 98, 3) := by decide +kernel
theorem dX11_statement_352 : decode cX11_statement 352 = .ok (.iload_n 1, 1) := by decide +kernel
theorem dX11_statement_353 : decode cX11_statement 353 = .ok (.iastore, 1) := by decide +kernel
theorem dX11_statement_354 : decode cX11_statement 354 = .ok (.iconst 0, 1) := by decide +kernel
theorem dX11_statement_355 : decode cX11_statement 355 = .ok (.istore_n 3, 1) := by decide +kernel
theorem dX11_statement_356 : decode cX11_statement 356 = .ok (.iload_n 3, 1) := by decide +kernel
theorem dX11_statement_357 : decode cX11_statement 357 = .ok (.iload_n 1, 1) := by decide +kernel
theorem dX11_statement_358 : decode cX11_statement 358 = .ok (.if_icmp .ge 31, 3) := by decide +kernel
theorem dX11_statement_361 : decode cX11_statement 361 = .ok (.aload_n 0, 1) := by decide +kernel
theorem dX11_statement_362 : decode cX11_statement 362 = .ok (.getfield 116, 3) := by decide +kernel
theorem dX11_statement_365 : decode cX11_statement 365 = .ok (.bipush 10, 2) := by decide +kernel
theorem dX11_statement_367 : decode cX11_statement 367 = .ok (.aload_n 0, 1) := by decide +kernel
theorem dX11_statement_368 : decode cX11_statement 368 = .ok (.getfield 98, 3) := by decide +kernel
theorem dX11_statement_371 : decode cX11_statement 371 = .ok (.imul, 1) := by decide +kernel
theorem dX11_statement_372 : decode cX11_statement 372 = .ok (.iload_n 3, 1) := by decide +kernel
theorem dX11_statement_373 : decode cX11_statement 373 = .ok (.iadd, 1) := by decide +kernel
theorem dX11_statement_374 : decode cX11_statement 374 = .ok (.aload_n 0, 1) := by decide +kernel
theorem dX11_statement_375 : decode cX11_statement 375 = .ok (.getfield 7, 3) := by decide +kernel
theorem dX11_statement_378 : decode cX11_statement 378 = .ok (.iload_n 2, 1) := by decide +kernel
theorem dX11_statement_379 : decode cX11_statement 379 = .ok (.iload_n 3, 1) := by decide +kernel
theorem dX11_statement_380 : decode cX11_statement 380 = .ok (.iadd, 1) := by decide +kernel
theorem dX11_statement_381 : decode cX11_statement 381 = .ok (.iaload, 1) := by decide +kernel
theorem dX11_statement_382 : decode cX11_statement 382 = .ok (.iastore, 1) := by decide +kernel
theorem dX11_statement_383 : decode cX11_statement 383 = .ok (.iinc 3 1, 3) := by decide +kernel
theorem dX11_statement_386 : decode cX11_statement 386 = .ok (.goto (-30), 3) := by decide +kernel
theorem dX11_statement_389 : decode cX11_statement 389 = .ok (.aload_n 0, 1) := by decide +kernel
theorem dX11_statement_390 : decode cX11_statement 390 = .ok (.bipush 61, 2) := by decide +kernel
theorem dX11_statement_392 : decode cX11_statement 392 = .ok (.invokevirtual 295, 3) := by decide +kernel
theorem dX11_statement_395 : decode cX11_statement 395 = .ok (.aload_n 0, 1) := by decide +kernel
theorem dX11_statement_396 : decode cX11_statement 396 = .ok (.getfield 92, 3) := by decide +kernel
theorem dX11_statement_399 : decode cX11_statement 399 = .ok (.ifCond .ne 7, 3) := by decide +kernel
theorem dX11_statement_402 : decode cX11_statement 402 = .ok (.aload_n 0, 1) := by decide +kernel
theorem dX11_statement_403 : decode cX11_statement 403 = .ok (.invokevirtual 292, 3) := by decide +kernel
theorem dX11_statement_406 : decode cX11_statement 406 = .ok (.aload_n 0, 1) := by decide +kernel
theorem dX11_statement_407 : decode cX11_statement 407 = .ok (.iload_n 2, 1) := by decide +kernel
theorem dX11_statement_408 : decode cX11_statement 408 = .ok (.iload_n 1, 1) := by decide +kernel
theorem dX11_statement_409 : decode cX11_statement 409 = .ok (.ldc2_w 298, 3) := by decide +kernel
theorem dX11_statement_412 : decode cX11_statement 412 = .ok (.iconst 5, 1) := by decide +kernel
theorem dX11_statement_413 : decode cX11_statement 413 = .ok (.invokevirtual 199, 3) := by decide +kernel
theorem dX11_statement_416 : decode cX11_statement 416 = .ok (.ifCond .eq 11, 3) := by decide +kernel
theorem dX11_statement_419 : decode cX11_statement 419 = .ok (.aload_n 0, 1) := by decide +kernel
theorem dX11_statement_420 : decode cX11_statement 420 = .ok (.aload_n 0, 1) := by decide +kernel
theorem dX11_statement_421 : decode cX11_statement 421 = .ok (.getfield 98, 3) := by decide +kernel
theorem dX11_statement_424 : decode cX11_statement 424 = .ok (.putfield 104, 3) := by decide +kernel
theorem dX11_statement_427 : decode cX11_statement 427 = .ok (.aload_n 0, 1) := by decide +kernel
theorem dX11_statement_428 : decode cX11_statement 428 = .ok (.getfield 92, 3) := by decide +kernel
theorem dX11_statement_431 : decode cX11_statement 431 = .ok (.ifCond .ne 9, 3) := by decide +kernel
theorem dX11_statement_434 : decode cX11_statement 434 = .ok (.aload_n 0, 1) := by decide +kernel
theorem dX11_statement_435 : decode cX11_statement 435 = .ok (.bipush 59, 2) := by decide +kernel
theorem dX11_statement_437 : decode cX11_statement 437 = .ok (.invokevirtual 295, 3) := by decide +kernel
theorem dX11_statement_440 : decode cX11_statement 440 = .ok (.aload_n 0, 1) := by decide +kernel
theorem dX11_statement_441 : decode cX11_statement 441 = .ok (.dup, 1) := by decide +kernel
theorem dX11_statement_442 : decode cX11_statement 442 = .ok (.getfield 98, 3) := by decide +kernel
theorem dX11_statement_445 : decode cX11_statement 445 = .ok (.iconst 1, 1) := by decide +kernel
theorem dX11_statement_446 : decode cX11_statement 446 = .ok (.iadd, 1) := by decide +kernel
theorem dX11_statement_447 : decode cX11_statement 447 = .ok (.putfield 98, 3) := by decide +kernel
theorem dX11_statement_450 : decode cX11_statement 450 = .ok (.return_, 1) := by decide +kernel
theorem dX11_rules_0 : decode cX11_rules 0 = .ok (.aload_n 0, 1) := by decide +kernel
theorem dX11_rules_1 : decode cX11_rules 1 = .ok (.aload_n 0, 1) := by decide +kernel
theorem dX11_rules_2 : decode cX11_rules 2 = .ok (.getfield 13, 3) := by decide +kernel
theorem dX11_rules_5 : decode cX11_rules 5 = .ok (.putfield 89, 3) := by decide +kernel
theorem dX11_rules_8 : decode cX11_rules 8 = .ok (.aload_n 0, 1) := by decide +kernel
theorem dX11_rules_9 : decode cX11_rules 9 = .ok (.iconst 0, 1) := by decide +kernel
theorem dX11_rules_10 : decode cX11_rules 10 = .ok (.putfield 13, 3) := by decide +kernel
theorem dX11_rules_13 : decode cX11_rules 13 = .ok (.aload_n 0, 1) := by decide +kernel
theorem dX11_rules_14 : decode cX11_rules 14 = .ok (.iconst 0, 1) := by decide +kernel
theorem dX11_rules_15 : decode cX11_rules 15 = .ok (.putfield 86, 3) := by decide +kernel
theorem dX11_rules_18 : decode cX11_rules 18 = .ok (.aload_n 0, 1) := by decide +kernel
theorem dX11_rules_19 : decode cX11_rules 19 = .ok (.iconst 0, 1) := by decide +kernel
theorem dX11_rules_20 : decode cX11_rules 20 = .ok (.putfield 92, 3) := by decide +kernel
theorem dX11_rules_23 : decode cX11_rules 23 = .ok (.aload_n 0, 1) := by decide +kernel
theorem dX11_rules_24 : decode cX11_rules 24 = .ok (.iconst (-1), 1) := by decide +kernel
theorem dX11_rules_25 : decode cX11_rules 25 = .ok (.putfield 95, 3) := by decide +kernel
theorem dX11_rules_28 : decode cX11_rules 28 = .ok (.aload_n 0, 1) := by decide +kernel
theorem dX11_rules_29 : decode cX11_rules 29 = .ok (.iconst 0, 1) := by decide +kernel
theorem dX11_rules_30 : decode cX11_rules 30 = .ok (.putfield 98, 3) := by decide +kernel
theorem dX11_rules_33 : decode cX11_rules 33 = .ok (.aload_n 0, 1) := by decide +kernel
theorem dX11_rules_34 : decode cX11_rules 34 = .ok (.iconst 0, 1) := by decide +kernel
theorem dX11_rules_35 : decode cX11_rules 35 = .ok (.putfield 101, 3) := by decide +kernel
theorem dX11_rules_38 : decode cX11_rules 38 = .ok (.aload_n 0, 1) := by decide +kernel
theorem dX11_rules_39 : decode cX11_rules 39 = .ok (.iconst (-1), 1) := by decide +kernel
theorem dX11_rules_40 : decode cX11_rules 40 = .ok (.putfield 104, 3) := by decide +kernel
theorem dX11_rules_43 : decode cX11_rules 43 = .ok (.aload_n 0, 1) := by decide +kernel
theorem dX11_rules_44 : decode cX11_rules 44 = .ok (.invokevirtual 186, 3) := by decide +kernel
theorem dX11_rules_47 : decode cX11_rules 47 = .ok (.iconst (-1), 1) := by decide +kernel
theorem dX11_rules_48 : decode cX11_rules 48 = .ok (.if_icmp .eq 17, 3) := by decide +kernel
theorem dX11_rules_51 : decode cX11_rules 51 = .ok (.aload_n 0, 1) := by decide +kernel
theorem dX11_rules_52 : decode cX11_rules 52 = .ok (.getfield 92, 3) := by decide +kernel
theorem dX11_rules_55 : decode cX11_rules 55 = .ok (.ifCond .ne 10, 3) := by decide +kernel
theorem dX11_rules_58 : decode cX11_rules 58 = .ok (.aload_n 0, 1) := by decide +kernel
theorem dX11_rules_59 : decode cX11_rules 59 = .ok (.invokevirtual 300, 3) := by decide +kernel
theorem dX11_rules_62 : decode cX11_rules 62 = .ok (.goto (-19), 3) := by decide +kernel
theorem dX11_rules_65 : decode cX11_rules 65 = .ok (.aload_n 0, 1) := by decide +kernel
theorem dX11_rules_66 : decode cX11_rules 66 = .ok (.getfield 104, 3) := by decide +kernel
theorem dX11_rules_69 : decode cX11_rules 69 = .ok (.iconst (-1), 1) := by decide +kernel
theorem dX11_rules_70 : decode cX11_rules 70 = .ok (.if_icmp .ne 12, 3) := by decide +kernel
theorem dX11_rules_73 : decode cX11_rules 73 = .ok (.aload_n 0, 1) := by decide +kernel
theorem dX11_rules_74 : decode cX11_rules 74 = .ok (.iconst 4, 1) := by decide +kernel
theorem dX11_rules_75 : decode cX11_rules 75 = .ok (.aload_n 0, 1) := by decide +kernel
theorem dX11_rules_76 : decode cX11_rules 76 = .ok (.getfield 89, 3) := by decide +kernel
theorem dX11_rules_79 : decode cX11_rules 79 = .ok (.invokevirtual 189, 3) := by decide +kernel
theorem dX11_rules_82 : decode cX11_rules 82 = .ok (.aload_n 0, 1) := by decide +kernel
theorem dX11_rules_83 : decode cX11_rules 83 = .ok (.getfield 92, 3) := by decide +kernel
theorem dX11_rules_86 : decode cX11_rules 86 = .ok (.ifCond .le 5, 3) := by decide +kernel
theorem dX11_rules_89 : decode cX11_rules 89 = .ok (.iconst (-1), 1) := by decide +kernel
theorem dX11_rules_90 : decode cX11_rules 90 = .ok (.ireturn, 1) := by decide +kernel
theorem dX11_rules_91 : decode cX11_rules 91 = .ok (.aload_n 0, 1) := by decide +kernel
theorem dX11_rules_92 : decode cX11_rules 92 = .ok (.aload_n 0, 1) := by decide +kernel
theorem dX11_rules_93 : decode cX11_rules 93 = .ok (.getfield 98, 3) := by decide +kernel
theorem dX11_rules_96 : decode cX11_rules 96 = .ok (.putfield 71, 3) := by decide +kernel
theorem dX11_rules_99 : decode cX11_rules 99 = .ok (.aload_n 0, 1) := by decide +kernel
theorem dX11_rules_100 : decode cX11_rules 100 = .ok (.aload_n 0, 1) := by decide +kernel
theorem dX11_rules_101 : decode cX11_rules 101 = .ok (.getfield 104, 3) := by decide +kernel
theorem dX11_rules_104 : decode cX11_rules 104 = .ok (.putfield 83, 3) := by decide +kernel
theorem dX11_rules_107 : decode cX11_rules 107 = .ok (.aload_n 0, 1) := by decide +kernel
theorem dX11_rules_108 : decode cX11_rules 108 = .ok (.getfield 110, 3) := by decide +kernel
theorem dX11_rules_111 : decode cX11_rules 111 = .ok (.aload_n 0, 1) := by decide +kernel
theorem dX11_rules_112 : decode cX11_rules 112 = .ok (.getfield 98, 3) := by decide +kernel
theorem dX11_rules_115 : decode cX11_rules 115 = .ok (.aload_n 0, 1) := by decide +kernel
theorem dX11_rules_116 : decode cX11_rules 116 = .ok (.getfield 101, 3) := by decide +kernel
theorem dX11_rules_119 : decode cX11_rules 119 = .ok (.iastore, 1) := by decide +kernel
theorem dX11_rules_120 : decode cX11_rules 120 = .ok (.iconst 0, 1) := by decide +kernel
theorem dX11_rules_121 : decode cX11_rules 121 = .ok (.istore_n 1, 1) := by decide +kernel
theorem dX11_rules_122 : decode cX11_rules 122 = .ok (.iload_n 1, 1) := by decide +kernel
theorem dX11_rules_123 : decode cX11_rules 123 = .ok (.aload_n 0, 1) := by decide +kernel
theorem dX11_rules_124 : decode cX11_rules 124 = .ok (.getfield 98, 3) := by decide +kernel
theorem dX11_rules_127 : decode cX11_rules 127 = .ok (.if_icmp .gt 21, 3) := by decide +kernel
theorem dX11_rules_130 : decode cX11_rules 130 = .ok (.aload_n 0, 1) := by decide +kernel
theorem dX11_rules_131 : decode cX11_rules 131 = .ok (.getfield 77, 3) := by decide +kernel
theorem dX11_rules_134 : decode cX11_rules 134 = .ok (.iload_n 1, 1) := by decide +kernel
theorem dX11_rules_135 : decode cX11_rules 135 = .ok (.aload_n 0, 1) := by decide +kernel
theorem dX11_rules_136 : decode cX11_rules 136 = .ok (.getfield 110, 3) := by decide +kernel
theorem dX11_rules_139 : decode cX11_rules 139 = .ok (.iload_n 1, 1) := by decide +kernel
theorem dX11_rules_140 : decode cX11_rules 140 = .ok (.iaload, 1) := by decide +kernel
theorem dX11_rules_141 : decode cX11_rules 141 = .ok (.iastore, 1) := by decide +kernel
theorem dX11_rules_142 : decode cX11_rules 142 = .ok (.iinc 1 1, 3) := by decide +kernel
theorem dX11_rules_145 : decode cX11_rules 145 = .ok (.goto (-23), 3) := by decide +kernel
theorem dX11_rules_148 : decode cX11_rules 148 = .ok (.iconst 0, 1) := by decide +kernel
theorem dX11_rules_149 : decode cX11_rules 149 = .ok (.istore_n 1, 1) := by decide +kernel
theorem dX11_rules_150 : decode cX11_rules 150 = .ok (.iload_n 1, 1) := by decide +kernel
theorem dX11_rules_151 : decode cX11_rules 151 = .ok (.aload_n 0, 1) := by decide +kernel
theorem dX11_rules_152 : decode cX11_rules 152 = .ok (.getfield 98, 3) := by decide +kernel
theorem dX11_rules_155 : decode cX11_rules 155 = .ok (.if_icmp .ge 21, 3) := by decide +kernel
theorem dX11_rules_158 : decode cX11_rules 158 = .ok (.aload_n 0, 1) := by decide +kernel
theorem dX11_rules_159 : decode cX11_rules 159 = .ok (.getfield 74, 3) := by decide +kernel
theorem dX11_rules_162 : decode cX11_rules 162 = .ok (.iload_n 1, 1) := by decide +kernel
theorem dX11_rules_163 : decode cX11_rules 163 = .ok (.aload_n 0, 1) := by decide +kernel
theorem dX11_rules_164 : decode cX11_rules 164 = .ok (.getfield 107, 3) := by decide +kernel
theorem dX11_rules_167 : decode cX11_rules 167 = .ok (.iload_n 1, 1) := by decide +kernel
theorem dX11_rules_168 : decode cX11_rules 168 = .ok (.iaload, 1) := by decide +kernel
theorem dX11_rules_169 : decode cX11_rules 169 = .ok (.iastore, 1) := by decide +kernel
theorem dX11_rules_170 : decode cX11_rules 170 = .ok (.iinc 1 1, 3) := by decide +kernel
theorem dX11_rules_173 : decode cX11_rules 173 = .ok (.goto (-23), 3) := by decide +kernel
theorem dX11_rules_176 : decode cX11_rules 176 = .ok (.iconst 0, 1) := by decide +kernel
theorem dX11_rules_177 : decode cX11_rules 177 = .ok (.istore_n 1, 1) := by decide +kernel
theorem dX11_rules_178 : decode cX11_rules 178 = .ok (.iload_n 1, 1) := by decide +kernel
theorem dX11_rules_179 : decode cX11_rules 179 = .ok (.iconst 2, 1) := by decide +kernel
theorem dX11_rules_180 : decode cX11_rules 180 = .ok (.aload_n 0, 1) := by decide +kernel
theorem dX11_rules_181 : decode cX11_rules 181 = .ok (.getfield 101, 3) := by decide +kernel
theorem dX11_rules_184 : decode cX11_rules 184 = .ok (.imul, 1) := by decide +kernel
theorem dX11_rules_185 : decode cX11_rules 185 = .ok (.if_icmp .ge 21, 3) := by decide +kernel
theorem dX11_rules_188 : decode cX11_rules 188 = .ok (.aload_n 0, 1) := by decide +kernel
theorem dX11_rules_189 : decode cX11_rules 189 = .ok (.getfield 80, 3) := by decide +kernel
theorem dX11_rules_192 : decode cX11_rules 192 = .ok (.iload_n 1, 1) := by decide +kernel
theorem dX11_rules_193 : decode cX11_rules 193 = .ok (.aload_n 0, 1) := by decide +kernel
theorem dX11_rules_194 : decode cX11_rules 194 = .ok (.getfield 113, 3) := by decide +kernel
theorem dX11_rules_197 : decode cX11_rules 197 = .ok (.iload_n 1, 1) := by decide +kernel
theorem dX11_rules_198 : decode cX11_rules 198 = .ok (.iaload, 1) := by decide +kernel
theorem dX11_rules_199 : decode cX11_rules 199 = .ok (.iastore, 1) := by decide +kernel
theorem dX11_rules_200 : decode cX11_rules 200 = .ok (.iinc 1 1, 3) := by decide +kernel
theorem dX11_rules_203 : decode cX11_rules 203 = .ok (.goto (-25), 3) := by decide +kernel
theorem dX11_rules_206 : decode cX11_rules 206 = .ok (.aload_n 0, 1) := by decide +kernel
theorem dX11_rules_207 : decode cX11_rules 207 = .ok (.getfield 71, 3) := by decide +kernel
theorem dX11_rules_210 : decode cX11_rules 210 = .ok (.ireturn, 1) := by decide +kernel
theorem dX11_fault_0 : decode cX11_fault 0 = .ok (.iload_n 1, 1) := by decide +kernel
theorem dX11_fault_1 : decode cX11_fault 1 = .ok (.ifCond .ne 10, 3) := by decide +kernel
theorem dX11_fault_4 : decode cX11_fault 4 = .ok (.aload_n 0, 1) := by decide +kernel
theorem dX11_fault_5 : decode cX11_fault 5 = .ok (.getfield 92, 3) := by decide +kernel
theorem dX11_fault_8 : decode cX11_fault 8 = .ok (.goto 16, 3) := by decide +kernel
theorem dX11_fault_11 : decode cX11_fault 11 = .ok (.iload_n 1, 1) := by decide +kernel
theorem dX11_fault_12 : decode cX11_fault 12 = .ok (.iconst 1, 1) := by decide +kernel
theorem dX11_fault_13 : decode cX11_fault 13 = .ok (.if_icmp .ne 10, 3) := by decide +kernel
theorem dX11_fault_16 : decode cX11_fault 16 = .ok (.aload_n 0, 1) := by decide +kernel
theorem dX11_fault_17 : decode cX11_fault 17 = .ok (.getfield 95, 3) := by decide +kernel
theorem dX11_fault_20 : decode cX11_fault 20 = .ok (.goto 4, 3) := by decide +kernel
theorem dX11_fault_23 : decode cX11_fault 23 = .ok (.iconst (-1), 1) := by decide +kernel
theorem dX11_fault_24 : decode cX11_fault 24 = .ok (.ireturn, 1) := by decide +kernel
theorem dX11_held_0 : decode cX11_held 0 = .ok (.lload_n 0, 1) := by decide +kernel
theorem dX11_held_1 : decode cX11_held 1 = .ok (.ldc2_w 303, 3) := by decide +kernel
theorem dX11_held_4 : decode cX11_held 4 = .ok (.lcmp, 1) := by decide +kernel
theorem dX11_held_5 : decode cX11_held 5 = .ok (.ifCond .le 9, 3) := by decide +kernel
theorem dX11_held_8 : decode cX11_held 8 = .ok (.ldc2_w 303, 3) := by decide +kernel
theorem dX11_held_11 : decode cX11_held 11 = .ok (.goto 18, 3) := by decide +kernel
theorem dX11_held_14 : decode cX11_held 14 = .ok (.lload_n 0, 1) := by decide +kernel
theorem dX11_held_15 : decode cX11_held 15 = .ok (.ldc2_w 305, 3) := by decide +kernel
theorem dX11_held_18 : decode cX11_held 18 = .ok (.lcmp, 1) := by decide +kernel
theorem dX11_held_19 : decode cX11_held 19 = .ok (.ifCond .ge 9, 3) := by decide +kernel
theorem dX11_held_22 : decode cX11_held 22 = .ok (.ldc2_w 305, 3) := by decide +kernel
theorem dX11_held_25 : decode cX11_held 25 = .ok (.goto 4, 3) := by decide +kernel
theorem dX11_held_28 : decode cX11_held 28 = .ok (.lload_n 0, 1) := by decide +kernel
theorem dX11_held_29 : decode cX11_held 29 = .ok (.lreturn, 1) := by decide +kernel
theorem dX11_times_0 : decode cX11_times 0 = .ok (.lload_n 0, 1) := by decide +kernel
theorem dX11_times_1 : decode cX11_times 1 = .ok (.lconst 0, 1) := by decide +kernel
theorem dX11_times_2 : decode cX11_times 2 = .ok (.lcmp, 1) := by decide +kernel
theorem dX11_times_3 : decode cX11_times 3 = .ok (.ifCond .eq 9, 3) := by decide +kernel
theorem dX11_times_6 : decode cX11_times 6 = .ok (.lload_n 2, 1) := by decide +kernel
theorem dX11_times_7 : decode cX11_times 7 = .ok (.lconst 0, 1) := by decide +kernel
theorem dX11_times_8 : decode cX11_times 8 = .ok (.lcmp, 1) := by decide +kernel
theorem dX11_times_9 : decode cX11_times 9 = .ok (.ifCond .ne 5, 3) := by decide +kernel
theorem dX11_times_12 : decode cX11_times 12 = .ok (.lconst 0, 1) := by decide +kernel
theorem dX11_times_13 : decode cX11_times 13 = .ok (.lreturn, 1) := by decide +kernel
theorem dX11_times_14 : decode cX11_times 14 = .ok (.lload_n 0, 1) := by decide +kernel
theorem dX11_times_15 : decode cX11_times 15 = .ok (.lconst 0, 1) := by decide +kernel
theorem dX11_times_16 : decode cX11_times 16 = .ok (.lcmp, 1) := by decide +kernel
theorem dX11_times_17 : decode cX11_times 17 = .ok (.ifCond .ge 8, 3) := by decide +kernel
theorem dX11_times_20 : decode cX11_times 20 = .ok (.lload_n 0, 1) := by decide +kernel
theorem dX11_times_21 : decode cX11_times 21 = .ok (.lneg, 1) := by decide +kernel
theorem dX11_times_22 : decode cX11_times 22 = .ok (.goto 4, 3) := by decide +kernel
theorem dX11_times_25 : decode cX11_times 25 = .ok (.lload_n 0, 1) := by decide +kernel
theorem dX11_times_26 : decode cX11_times 26 = .ok (.lstore 4, 2) := by decide +kernel
theorem dX11_times_28 : decode cX11_times 28 = .ok (.lload_n 2, 1) := by decide +kernel
theorem dX11_times_29 : decode cX11_times 29 = .ok (.lconst 0, 1) := by decide +kernel
theorem dX11_times_30 : decode cX11_times 30 = .ok (.lcmp, 1) := by decide +kernel
theorem dX11_times_31 : decode cX11_times 31 = .ok (.ifCond .ge 8, 3) := by decide +kernel
theorem dX11_times_34 : decode cX11_times 34 = .ok (.lload_n 2, 1) := by decide +kernel
theorem dX11_times_35 : decode cX11_times 35 = .ok (.lneg, 1) := by decide +kernel
theorem dX11_times_36 : decode cX11_times 36 = .ok (.goto 4, 3) := by decide +kernel
theorem dX11_times_39 : decode cX11_times 39 = .ok (.lload_n 2, 1) := by decide +kernel
theorem dX11_times_40 : decode cX11_times 40 = .ok (.lstore 6, 2) := by decide +kernel
theorem dX11_times_42 : decode cX11_times 42 = .ok (.lload 6, 2) := by decide +kernel
theorem dX11_times_44 : decode cX11_times 44 = .ok (.ldc2_w 303, 3) := by decide +kernel
theorem dX11_times_47 : decode cX11_times 47 = .ok (.lload 4, 2) := by decide +kernel
theorem dX11_times_49 : decode cX11_times 49 = .ok (.ldiv, 1) := by decide +kernel
theorem dX11_times_50 : decode cX11_times 50 = .ok (.lcmp, 1) := by decide +kernel
theorem dX11_times_51 : decode cX11_times 51 = .ok (.ifCond .le 38, 3) := by decide +kernel
theorem dX11_times_54 : decode cX11_times 54 = .ok (.lload_n 0, 1) := by decide +kernel
theorem dX11_times_55 : decode cX11_times 55 = .ok (.lconst 0, 1) := by decide +kernel
theorem dX11_times_56 : decode cX11_times 56 = .ok (.lcmp, 1) := by decide +kernel
theorem dX11_times_57 : decode cX11_times 57 = .ok (.ifCond .ge 7, 3) := by decide +kernel
theorem dX11_times_60 : decode cX11_times 60 = .ok (.iconst 1, 1) := by decide +kernel
theorem dX11_times_61 : decode cX11_times 61 = .ok (.goto 4, 3) := by decide +kernel
theorem dX11_times_64 : decode cX11_times 64 = .ok (.iconst 0, 1) := by decide +kernel
theorem dX11_times_65 : decode cX11_times 65 = .ok (.lload_n 2, 1) := by decide +kernel
theorem dX11_times_66 : decode cX11_times 66 = .ok (.lconst 0, 1) := by decide +kernel
theorem dX11_times_67 : decode cX11_times 67 = .ok (.lcmp, 1) := by decide +kernel
theorem dX11_times_68 : decode cX11_times 68 = .ok (.ifCond .ge 7, 3) := by decide +kernel
theorem dX11_times_71 : decode cX11_times 71 = .ok (.iconst 1, 1) := by decide +kernel
theorem dX11_times_72 : decode cX11_times 72 = .ok (.goto 4, 3) := by decide +kernel
theorem dX11_times_75 : decode cX11_times 75 = .ok (.iconst 0, 1) := by decide +kernel
theorem dX11_times_76 : decode cX11_times 76 = .ok (.if_icmp .ne 9, 3) := by decide +kernel
theorem dX11_times_79 : decode cX11_times 79 = .ok (.ldc2_w 303, 3) := by decide +kernel
theorem dX11_times_82 : decode cX11_times 82 = .ok (.goto 6, 3) := by decide +kernel
theorem dX11_times_85 : decode cX11_times 85 = .ok (.ldc2_w 305, 3) := by decide +kernel
theorem dX11_times_88 : decode cX11_times 88 = .ok (.lreturn, 1) := by decide +kernel
theorem dX11_times_89 : decode cX11_times 89 = .ok (.lload_n 0, 1) := by decide +kernel
theorem dX11_times_90 : decode cX11_times 90 = .ok (.lload_n 2, 1) := by decide +kernel
theorem dX11_times_91 : decode cX11_times 91 = .ok (.lmul, 1) := by decide +kernel
theorem dX11_times_92 : decode cX11_times 92 = .ok (.lreturn, 1) := by decide +kernel
theorem dX11_over_0 : decode cX11_over 0 = .ok (.lload_n 0, 1) := by decide +kernel
theorem dX11_over_1 : decode cX11_over 1 = .ok (.lload_n 2, 1) := by decide +kernel
theorem dX11_over_2 : decode cX11_over 2 = .ok (.ldiv, 1) := by decide +kernel
theorem dX11_over_3 : decode cX11_over 3 = .ok (.lstore 4, 2) := by decide +kernel
theorem dX11_over_5 : decode cX11_over 5 = .ok (.lload_n 0, 1) := by decide +kernel
theorem dX11_over_6 : decode cX11_over 6 = .ok (.lconst 0, 1) := by decide +kernel
theorem dX11_over_7 : decode cX11_over 7 = .ok (.lcmp, 1) := by decide +kernel
theorem dX11_over_8 : decode cX11_over 8 = .ok (.ifCond .ge 19, 3) := by decide +kernel
theorem dX11_over_11 : decode cX11_over 11 = .ok (.lload 4, 2) := by decide +kernel
theorem dX11_over_13 : decode cX11_over 13 = .ok (.lload_n 2, 1) := by decide +kernel
theorem dX11_over_14 : decode cX11_over 14 = .ok (.lmul, 1) := by decide +kernel
theorem dX11_over_15 : decode cX11_over 15 = .ok (.lload_n 0, 1) := by decide +kernel
theorem dX11_over_16 : decode cX11_over 16 = .ok (.lcmp, 1) := by decide +kernel
theorem dX11_over_17 : decode cX11_over 17 = .ok (.ifCond .eq 10, 3) := by decide +kernel
theorem dX11_over_20 : decode cX11_over 20 = .ok (.lload 4, 2) := by decide +kernel
theorem dX11_over_22 : decode cX11_over 22 = .ok (.lconst 1, 1) := by decide +kernel
theorem dX11_over_23 : decode cX11_over 23 = .ok (.lsub, 1) := by decide +kernel
theorem dX11_over_24 : decode cX11_over 24 = .ok (.goto 5, 3) := by decide +kernel
theorem dX11_over_27 : decode cX11_over 27 = .ok (.lload 4, 2) := by decide +kernel
theorem dX11_over_29 : decode cX11_over 29 = .ok (.lreturn, 1) := by decide +kernel
theorem dX11_works_0 : decode cX11_works 0 = .ok (.iconst 0, 1) := by decide +kernel
theorem dX11_works_1 : decode cX11_works 1 = .ok (.istore_n 3, 1) := by decide +kernel
theorem dX11_works_2 : decode cX11_works 2 = .ok (.aload_n 0, 1) := by decide +kernel
theorem dX11_works_3 : decode cX11_works 3 = .ok (.getfield 77, 3) := by decide +kernel
theorem dX11_works_6 : decode cX11_works 6 = .ok (.iload_n 2, 1) := by decide +kernel
theorem dX11_works_7 : decode cX11_works 7 = .ok (.iaload, 1) := by decide +kernel
theorem dX11_works_8 : decode cX11_works 8 = .ok (.istore 4, 2) := by decide +kernel
theorem dX11_works_10 : decode cX11_works 10 = .ok (.iload 4, 2) := by decide +kernel
theorem dX11_works_12 : decode cX11_works 12 = .ok (.aload_n 0, 1) := by decide +kernel
theorem dX11_works_13 : decode cX11_works 13 = .ok (.getfield 77, 3) := by decide +kernel
theorem dX11_works_16 : decode cX11_works 16 = .ok (.iload_n 2, 1) := by decide +kernel
theorem dX11_works_17 : decode cX11_works 17 = .ok (.iconst 1, 1) := by decide +kernel
theorem dX11_works_18 : decode cX11_works 18 = .ok (.iadd, 1) := by decide +kernel
theorem dX11_works_19 : decode cX11_works 19 = .ok (.iaload, 1) := by decide +kernel
theorem dX11_works_20 : decode cX11_works 20 = .ok (.if_icmp .ge 164, 3) := by decide +kernel
theorem dX11_works_23 : decode cX11_works 23 = .ok (.aload_n 0, 1) := by decide +kernel
theorem dX11_works_24 : decode cX11_works 24 = .ok (.getfield 80, 3) := by decide +kernel
theorem dX11_works_27 : decode cX11_works 27 = .ok (.iconst 2, 1) := by decide +kernel
theorem dX11_works_28 : decode cX11_works 28 = .ok (.iload 4, 2) := by decide +kernel
theorem dX11_works_30 : decode cX11_works 30 = .ok (.imul, 1) := by decide +kernel
theorem dX11_works_31 : decode cX11_works 31 = .ok (.iaload, 1) := by decide +kernel
theorem dX11_works_32 : decode cX11_works 32 = .ok (.istore 5, 2) := by decide +kernel
theorem dX11_works_34 : decode cX11_works 34 = .ok (.aload_n 0, 1) := by decide +kernel
theorem dX11_works_35 : decode cX11_works 35 = .ok (.getfield 80, 3) := by decide +kernel
theorem dX11_works_38 : decode cX11_works 38 = .ok (.iconst 2, 1) := by decide +kernel
theorem dX11_works_39 : decode cX11_works 39 = .ok (.iload 4, 2) := by decide +kernel
theorem dX11_works_41 : decode cX11_works 41 = .ok (.imul, 1) := by decide +kernel
theorem dX11_works_42 : decode cX11_works 42 = .ok (.iconst 1, 1) := by decide +kernel
theorem dX11_works_43 : decode cX11_works 43 = .ok (.iadd, 1) := by decide +kernel
theorem dX11_works_44 : decode cX11_works 44 = .ok (.iaload, 1) := by decide +kernel
theorem dX11_works_45 : decode cX11_works 45 = .ok (.istore 6, 2) := by decide +kernel
theorem dX11_works_47 : decode cX11_works 47 = .ok (.iload 5, 2) := by decide +kernel
theorem dX11_works_49 : decode cX11_works 49 = .ok (.ifCond .eq 15, 3) := by decide +kernel
theorem dX11_works_52 : decode cX11_works 52 = .ok (.iload 5, 2) := by decide +kernel
theorem dX11_works_54 : decode cX11_works 54 = .ok (.iconst 1, 1) := by decide +kernel
theorem dX11_works_55 : decode cX11_works 55 = .ok (.if_icmp .eq 9, 3) := by decide +kernel
theorem dX11_works_58 : decode cX11_works 58 = .ok (.iload 5, 2) := by decide +kernel
theorem dX11_works_60 : decode cX11_works 60 = .ok (.iconst 2, 1) := by decide +kernel
theorem dX11_works_61 : decode cX11_works 61 = .ok (.if_icmp .ne 55, 3) := by decide +kernel
theorem dX11_works_64 : decode cX11_works 64 = .ok (.aload_n 0, 1) := by decide +kernel
theorem dX11_works_65 : decode cX11_works 65 = .ok (.getfield 135, 3) := by decide +kernel
theorem dX11_works_68 : decode cX11_works 68 = .ok (.iload_n 3, 1) := by decide +kernel
theorem dX11_works_69 : decode cX11_works 69 = .ok (.iload 5, 2) := by decide +kernel
theorem dX11_works_71 : decode cX11_works 71 = .ok (.ifCond .ne 9, 3) := by decide +kernel
theorem dX11_works_74 : decode cX11_works 74 = .ok (.iload 6, 2) := by decide +kernel
theorem dX11_works_76 : decode cX11_works 76 = .ok (.i2l, 1) := by decide +kernel
theorem dX11_works_77 : decode cX11_works 77 = .ok (.goto 32, 3) := by decide +kernel
theorem dX11_works_80 : decode cX11_works 80 = .ok (.iload 5, 2) := by decide +kernel
theorem dX11_works_82 : decode cX11_works 82 = .ok (.iconst 1, 1) := by decide +kernel
theorem dX11_works_83 : decode cX11_works 83 = .ok (.if_icmp .ne 14, 3) := by decide +kernel
theorem dX11_works_86 : decode cX11_works 86 = .ok (.aload_n 0, 1) := by decide +kernel
theorem dX11_works_87 : decode cX11_works 87 = .ok (.getfield 65, 3) := by decide +kernel
theorem dX11_works_90 : decode cX11_works 90 = .ok (.iload 6, 2) := by decide +kernel
theorem dX11_works_92 : decode cX11_works 92 = .ok (.iaload, 1) := by decide +kernel
theorem dX11_works_93 : decode cX11_works 93 = .ok (.i2l, 1) := by decide +kernel
theorem dX11_works_94 : decode cX11_works 94 = .ok (.goto 15, 3) := by decide +kernel
theorem dX11_works_97 : decode cX11_works 97 = .ok (.aload_n 0, 1) := by decide +kernel
theorem dX11_works_98 : decode cX11_works 98 = .ok (.getfield 139, 3) := by decide +kernel
theorem dX11_works_101 : decode cX11_works 101 = .ok (.bipush 24, 2) := by decide +kernel
theorem dX11_works_103 : decode cX11_works 103 = .ok (.iload_n 1, 1) := by decide +kernel
theorem dX11_works_104 : decode cX11_works 104 = .ok (.imul, 1) := by decide +kernel
theorem dX11_works_105 : decode cX11_works 105 = .ok (.iload 6, 2) := by decide +kernel
theorem dX11_works_107 : decode cX11_works 107 = .ok (.iadd, 1) := by decide +kernel
theorem dX11_works_108 : decode cX11_works 108 = .ok (.laload, 1) := by decide +kernel
theorem dX11_works_109 : decode cX11_works 109 = .ok (.lastore, 1) := by decide +kernel
theorem dX11_works_110 : decode cX11_works 110 = .ok (.iinc 3 1, 3) := by decide +kernel
theorem dX11_works_113 : decode cX11_works 113 = .ok (.goto 65, 3) := by decide +kernel
theorem dX11_works_116 : decode cX11_works 116 = .ok (.iload 5, 2) := by decide +kernel
theorem dX11_works_118 : decode cX11_works 118 = .ok (.bipush 6, 2) := by decide +kernel
theorem dX11_works_120 : decode cX11_works 120 = .ok (.if_icmp .ne 28, 3) := by decide +kernel
theorem dX11_works_123 : decode cX11_works 123 = .ok (.aload_n 0, 1) := by decide +kernel
theorem dX11_works_124 : decode cX11_works 124 = .ok (.getfield 135, 3) := by decide +kernel
theorem dX11_works_127 : decode cX11_works 127 = .ok (.iload_n 3, 1) := by decide +kernel
theorem dX11_works_128 : decode cX11_works 128 = .ok (.iconst 1, 1) := by decide +kernel
theorem dX11_works_129 : decode cX11_works 129 = .ok (.isub, 1) := by decide +kernel
theorem dX11_works_130 : decode cX11_works 130 = .ok (.aload_n 0, 1) := by decide +kernel
theorem dX11_works_131 : decode cX11_works 131 = .ok (.getfield 135, 3) := by decide +kernel
theorem dX11_works_134 : decode cX11_works 134 = .ok (.iload_n 3, 1) := by decide +kernel
theorem dX11_works_135 : decode cX11_works 135 = .ok (.iconst 1, 1) := by decide +kernel
theorem dX11_works_136 : decode cX11_works 136 = .ok (.isub, 1) := by decide +kernel
theorem dX11_works_137 : decode cX11_works 137 = .ok (.laload, 1) := by decide +kernel
theorem dX11_works_138 : decode cX11_works 138 = .ok (.iload 6, 2) := by decide +kernel
theorem dX11_works_140 : decode cX11_works 140 = .ok (.i2l, 1) := by decide +kernel
theorem dX11_works_141 : decode cX11_works 141 = .ok (.invokestatic 307, 3) := by decide +kernel
theorem dX11_works_144 : decode cX11_works 144 = .ok (.lastore, 1) := by decide +kernel
theorem dX11_works_145 : decode cX11_works 145 = .ok (.goto 33, 3) := by decide +kernel
theorem dX11_works_148 : decode cX11_works 148 = .ok (.iinc 3 (-1), 3) := by decide +kernel
theorem dX11_works_151 : decode cX11_works 151 = .ok (.aload_n 0, 1) := by decide +kernel
theorem dX11_works_152 : decode cX11_works 152 = .ok (.getfield 135, 3) := by decide +kernel
theorem dX11_works_155 : decode cX11_works 155 = .ok (.iload_n 3, 1) := by decide +kernel
theorem dX11_works_156 : decode cX11_works 156 = .ok (.iconst 1, 1) := by decide +kernel
theorem dX11_works_157 : decode cX11_works 157 = .ok (.isub, 1) := by decide +kernel
theorem dX11_works_158 : decode cX11_works 158 = .ok (.iload 5, 2) := by decide +kernel
theorem dX11_works_160 : decode cX11_works 160 = .ok (.aload_n 0, 1) := by decide +kernel
theorem dX11_works_161 : decode cX11_works 161 = .ok (.getfield 135, 3) := by decide +kernel
theorem dX11_works_164 : decode cX11_works 164 = .ok (.iload_n 3, 1) := by decide +kernel
theorem dX11_works_165 : decode cX11_works 165 = .ok (.iconst 1, 1) := by decide +kernel
theorem dX11_works_166 : decode cX11_works 166 = .ok (.isub, 1) := by decide +kernel
theorem dX11_works_167 : decode cX11_works 167 = .ok (.laload, 1) := by decide +kernel
theorem dX11_works_168 : decode cX11_works 168 = .ok (.aload_n 0, 1) := by decide +kernel
theorem dX11_works_169 : decode cX11_works 169 = .ok (.getfield 135, 3) := by decide +kernel
theorem dX11_works_172 : decode cX11_works 172 = .ok (.iload_n 3, 1) := by decide +kernel
theorem dX11_works_173 : decode cX11_works 173 = .ok (.laload, 1) := by decide +kernel
theorem dX11_works_174 : decode cX11_works 174 = .ok (.invokestatic 311, 3) := by decide +kernel
theorem dX11_works_177 : decode cX11_works 177 = .ok (.lastore, 1) := by decide +kernel
theorem dX11_works_178 : decode cX11_works 178 = .ok (.iinc 4 1, 3) := by decide +kernel
theorem dX11_works_181 : decode cX11_works 181 = .ok (.goto (-171), 3) := by decide +kernel
theorem dX11_works_184 : decode cX11_works 184 = .ok (.aload_n 0, 1) := by decide +kernel
theorem dX11_works_185 : decode cX11_works 185 = .ok (.getfield 135, 3) := by decide +kernel
theorem dX11_works_188 : decode cX11_works 188 = .ok (.iconst 0, 1) := by decide +kernel
theorem dX11_works_189 : decode cX11_works 189 = .ok (.laload, 1) := by decide +kernel
theorem dX11_works_190 : decode cX11_works 190 = .ok (.lreturn, 1) := by decide +kernel
theorem dX11_two_0 : decode cX11_two 0 = .ok (.iload_n 0, 1) := by decide +kernel
theorem dX11_two_1 : decode cX11_two 1 = .ok (.tableswitch 115 3 10 #[47, 54, 61, 115, 67, 79, 91, 103], 47) := by decide +kernel
theorem dX11_two_48 : decode cX11_two 48 = .ok (.lload_n 1, 1) := by decide +kernel
theorem dX11_two_49 : decode cX11_two 49 = .ok (.lload_n 3, 1) := by decide +kernel
theorem dX11_two_50 : decode cX11_two 50 = .ok (.ladd, 1) := by decide +kernel
theorem dX11_two_51 : decode cX11_two 51 = .ok (.invokestatic 315, 3) := by decide +kernel
theorem dX11_two_54 : decode cX11_two 54 = .ok (.lreturn, 1) := by decide +kernel
theorem dX11_two_55 : decode cX11_two 55 = .ok (.lload_n 1, 1) := by decide +kernel
theorem dX11_two_56 : decode cX11_two 56 = .ok (.lload_n 3, 1) := by decide +kernel
theorem dX11_two_57 : decode cX11_two 57 = .ok (.lsub, 1) := by decide +kernel
theorem dX11_two_58 : decode cX11_two 58 = .ok (.invokestatic 315, 3) := by decide +kernel
theorem dX11_two_61 : decode cX11_two 61 = .ok (.lreturn, 1) := by decide +kernel
theorem dX11_two_62 : decode cX11_two 62 = .ok (.lload_n 1, 1) := by decide +kernel
theorem dX11_two_63 : decode cX11_two 63 = .ok (.lload_n 3, 1) := by decide +kernel
theorem dX11_two_64 : decode cX11_two 64 = .ok (.invokestatic 319, 3) := by decide +kernel
theorem dX11_two_67 : decode cX11_two 67 = .ok (.lreturn, 1) := by decide +kernel
theorem dX11_two_68 : decode cX11_two 68 = .ok (.lload_n 1, 1) := by decide +kernel
theorem dX11_two_69 : decode cX11_two 69 = .ok (.lload_n 3, 1) := by decide +kernel
theorem dX11_two_70 : decode cX11_two 70 = .ok (.lcmp, 1) := by decide +kernel
theorem dX11_two_71 : decode cX11_two 71 = .ok (.ifCond .le 7, 3) := by decide +kernel
theorem dX11_two_74 : decode cX11_two 74 = .ok (.lload_n 1, 1) := by decide +kernel
theorem dX11_two_75 : decode cX11_two 75 = .ok (.goto 4, 3) := by decide +kernel
theorem dX11_two_78 : decode cX11_two 78 = .ok (.lload_n 3, 1) := by decide +kernel
theorem dX11_two_79 : decode cX11_two 79 = .ok (.lreturn, 1) := by decide +kernel
theorem dX11_two_80 : decode cX11_two 80 = .ok (.lload_n 1, 1) := by decide +kernel
theorem dX11_two_81 : decode cX11_two 81 = .ok (.lload_n 3, 1) := by decide +kernel
theorem dX11_two_82 : decode cX11_two 82 = .ok (.lcmp, 1) := by decide +kernel
theorem dX11_two_83 : decode cX11_two 83 = .ok (.ifCond .ge 7, 3) := by decide +kernel
theorem dX11_two_86 : decode cX11_two 86 = .ok (.lload_n 1, 1) := by decide +kernel
theorem dX11_two_87 : decode cX11_two 87 = .ok (.goto 4, 3) := by decide +kernel
theorem dX11_two_90 : decode cX11_two 90 = .ok (.lload_n 3, 1) := by decide +kernel
theorem dX11_two_91 : decode cX11_two 91 = .ok (.lreturn, 1) := by decide +kernel
theorem dX11_two_92 : decode cX11_two 92 = .ok (.lload_n 1, 1) := by decide +kernel
theorem dX11_two_93 : decode cX11_two 93 = .ok (.lload_n 3, 1) := by decide +kernel
theorem dX11_two_94 : decode cX11_two 94 = .ok (.lcmp, 1) := by decide +kernel
theorem dX11_two_95 : decode cX11_two 95 = .ok (.ifCond .ge 7, 3) := by decide +kernel
theorem dX11_two_98 : decode cX11_two 98 = .ok (.lconst 1, 1) := by decide +kernel
theorem dX11_two_99 : decode cX11_two 99 = .ok (.goto 4, 3) := by decide +kernel
theorem dX11_two_102 : decode cX11_two 102 = .ok (.lconst 0, 1) := by decide +kernel
theorem dX11_two_103 : decode cX11_two 103 = .ok (.lreturn, 1) := by decide +kernel
theorem dX11_two_104 : decode cX11_two 104 = .ok (.lload_n 1, 1) := by decide +kernel
theorem dX11_two_105 : decode cX11_two 105 = .ok (.lload_n 3, 1) := by decide +kernel
theorem dX11_two_106 : decode cX11_two 106 = .ok (.lcmp, 1) := by decide +kernel
theorem dX11_two_107 : decode cX11_two 107 = .ok (.ifCond .le 7, 3) := by decide +kernel
theorem dX11_two_110 : decode cX11_two 110 = .ok (.lconst 1, 1) := by decide +kernel
theorem dX11_two_111 : decode cX11_two 111 = .ok (.goto 4, 3) := by decide +kernel
theorem dX11_two_114 : decode cX11_two 114 = .ok (.lconst 0, 1) := by decide +kernel
theorem dX11_two_115 : decode cX11_two 115 = .ok (.lreturn, 1) := by decide +kernel
theorem dX11_two_116 : decode cX11_two 116 = .ok (.lload_n 1, 1) := by decide +kernel
theorem dX11_two_117 : decode cX11_two 117 = .ok (.lload_n 3, 1) := by decide +kernel
theorem dX11_two_118 : decode cX11_two 118 = .ok (.lcmp, 1) := by decide +kernel
theorem dX11_two_119 : decode cX11_two 119 = .ok (.ifCond .ne 7, 3) := by decide +kernel
theorem dX11_two_122 : decode cX11_two 122 = .ok (.lconst 1, 1) := by decide +kernel
theorem dX11_two_123 : decode cX11_two 123 = .ok (.goto 4, 3) := by decide +kernel
theorem dX11_two_126 : decode cX11_two 126 = .ok (.lconst 0, 1) := by decide +kernel
theorem dX11_two_127 : decode cX11_two 127 = .ok (.lreturn, 1) := by decide +kernel
theorem dX11_worksAll_0 : decode cX11_worksAll 0 = .ok (.aload_n 0, 1) := by decide +kernel
theorem dX11_worksAll_1 : decode cX11_worksAll 1 = .ok (.getfield 142, 3) := by decide +kernel
theorem dX11_worksAll_4 : decode cX11_worksAll 4 = .ok (.iload_n 1, 1) := by decide +kernel
theorem dX11_worksAll_5 : decode cX11_worksAll 5 = .ok (.iconst 0, 1) := by decide +kernel
theorem dX11_worksAll_6 : decode cX11_worksAll 6 = .ok (.bastore, 1) := by decide +kernel
theorem dX11_worksAll_7 : decode cX11_worksAll 7 = .ok (.aload_n 0, 1) := by decide +kernel
theorem dX11_worksAll_8 : decode cX11_worksAll 8 = .ok (.iload_n 1, 1) := by decide +kernel
theorem dX11_worksAll_9 : decode cX11_worksAll 9 = .ok (.iload_n 2, 1) := by decide +kernel
theorem dX11_worksAll_10 : decode cX11_worksAll 10 = .ok (.invokevirtual 182, 3) := by decide +kernel
theorem dX11_worksAll_13 : decode cX11_worksAll 13 = .ok (.iconst 0, 1) := by decide +kernel
theorem dX11_worksAll_14 : decode cX11_worksAll 14 = .ok (.istore_n 3, 1) := by decide +kernel
theorem dX11_worksAll_15 : decode cX11_worksAll 15 = .ok (.iload_n 3, 1) := by decide +kernel
theorem dX11_worksAll_16 : decode cX11_worksAll 16 = .ok (.aload_n 0, 1) := by decide +kernel
theorem dX11_worksAll_17 : decode cX11_worksAll 17 = .ok (.getfield 71, 3) := by decide +kernel
theorem dX11_worksAll_20 : decode cX11_worksAll 20 = .ok (.if_icmp .ge 59, 3) := by decide +kernel
theorem dX11_worksAll_23 : decode cX11_worksAll 23 = .ok (.aload_n 0, 1) := by decide +kernel
theorem dX11_worksAll_24 : decode cX11_worksAll 24 = .ok (.getfield 139, 3) := by decide +kernel
theorem dX11_worksAll_27 : decode cX11_worksAll 27 = .ok (.bipush 24, 2) := by decide +kernel
theorem dX11_worksAll_29 : decode cX11_worksAll 29 = .ok (.iload_n 1, 1) := by decide +kernel
theorem dX11_worksAll_30 : decode cX11_worksAll 30 = .ok (.imul, 1) := by decide +kernel
theorem dX11_worksAll_31 : decode cX11_worksAll 31 = .ok (.iload_n 3, 1) := by decide +kernel
theorem dX11_worksAll_32 : decode cX11_worksAll 32 = .ok (.iadd, 1) := by decide +kernel
theorem dX11_worksAll_33 : decode cX11_worksAll 33 = .ok (.aload_n 0, 1) := by decide +kernel
theorem dX11_worksAll_34 : decode cX11_worksAll 34 = .ok (.iload_n 1, 1) := by decide +kernel
theorem dX11_worksAll_35 : decode cX11_worksAll 35 = .ok (.iload_n 3, 1) := by decide +kernel
theorem dX11_worksAll_36 : decode cX11_worksAll 36 = .ok (.invokevirtual 322, 3) := by decide +kernel
theorem dX11_worksAll_39 : decode cX11_worksAll 39 = .ok (.lastore, 1) := by decide +kernel
theorem dX11_worksAll_40 : decode cX11_worksAll 40 = .ok (.aload_n 0, 1) := by decide +kernel
theorem dX11_worksAll_41 : decode cX11_worksAll 41 = .ok (.getfield 74, 3) := by decide +kernel
theorem dX11_worksAll_44 : decode cX11_worksAll 44 = .ok (.iload_n 3, 1) := by decide +kernel
theorem dX11_worksAll_45 : decode cX11_worksAll 45 = .ok (.iaload, 1) := by decide +kernel
theorem dX11_worksAll_46 : decode cX11_worksAll 46 = .ok (.iconst 1, 1) := by decide +kernel
theorem dX11_worksAll_47 : decode cX11_worksAll 47 = .ok (.if_icmp .ne 26, 3) := by decide +kernel
theorem dX11_worksAll_50 : decode cX11_worksAll 50 = .ok (.aload_n 0, 1) := by decide +kernel
theorem dX11_worksAll_51 : decode cX11_worksAll 51 = .ok (.getfield 139, 3) := by decide +kernel
theorem dX11_worksAll_54 : decode cX11_worksAll 54 = .ok (.bipush 24, 2) := by decide +kernel
theorem dX11_worksAll_56 : decode cX11_worksAll 56 = .ok (.iload_n 1, 1) := by decide +kernel
theorem dX11_worksAll_57 : decode cX11_worksAll 57 = .ok (.imul, 1) := by decide +kernel
theorem dX11_worksAll_58 : decode cX11_worksAll 58 = .ok (.iload_n 3, 1) := by decide +kernel
theorem dX11_worksAll_59 : decode cX11_worksAll 59 = .ok (.iadd, 1) := by decide +kernel
theorem dX11_worksAll_60 : decode cX11_worksAll 60 = .ok (.laload, 1) := by decide +kernel
theorem dX11_worksAll_61 : decode cX11_worksAll 61 = .ok (.lconst 1, 1) := by decide +kernel
theorem dX11_worksAll_62 : decode cX11_worksAll 62 = .ok (.lcmp, 1) := by decide +kernel
theorem dX11_worksAll_63 : decode cX11_worksAll 63 = .ok (.ifCond .ne 10, 3) := by decide +kernel
theorem dX11_worksAll_66 : decode cX11_worksAll 66 = .ok (.aload_n 0, 1) := by decide +kernel
theorem dX11_worksAll_67 : decode cX11_worksAll 67 = .ok (.getfield 142, 3) := by decide +kernel
theorem dX11_worksAll_70 : decode cX11_worksAll 70 = .ok (.iload_n 1, 1) := by decide +kernel
theorem dX11_worksAll_71 : decode cX11_worksAll 71 = .ok (.iconst 1, 1) := by decide +kernel
theorem dX11_worksAll_72 : decode cX11_worksAll 72 = .ok (.bastore, 1) := by decide +kernel
theorem dX11_worksAll_73 : decode cX11_worksAll 73 = .ok (.iinc 3 1, 3) := by decide +kernel
theorem dX11_worksAll_76 : decode cX11_worksAll 76 = .ok (.goto (-61), 3) := by decide +kernel
theorem dX11_worksAll_79 : decode cX11_worksAll 79 = .ok (.return_, 1) := by decide +kernel
theorem dX11_reckons_0 : decode cX11_reckons 0 = .ok (.iconst 0, 1) := by decide +kernel
theorem dX11_reckons_1 : decode cX11_reckons 1 = .ok (.istore_n 2, 1) := by decide +kernel
theorem dX11_reckons_2 : decode cX11_reckons 2 = .ok (.iload_n 2, 1) := by decide +kernel
theorem dX11_reckons_3 : decode cX11_reckons 3 = .ok (.aload_n 0, 1) := by decide +kernel
theorem dX11_reckons_4 : decode cX11_reckons 4 = .ok (.getfield 17, 3) := by decide +kernel
theorem dX11_reckons_7 : decode cX11_reckons 7 = .ok (.if_icmp .ge 15, 3) := by decide +kernel
theorem dX11_reckons_10 : decode cX11_reckons 10 = .ok (.aload_n 0, 1) := by decide +kernel
theorem dX11_reckons_11 : decode cX11_reckons 11 = .ok (.iload_n 2, 1) := by decide +kernel
theorem dX11_reckons_12 : decode cX11_reckons 12 = .ok (.iload_n 1, 1) := by decide +kernel
theorem dX11_reckons_13 : decode cX11_reckons 13 = .ok (.invokevirtual 326, 3) := by decide +kernel
theorem dX11_reckons_16 : decode cX11_reckons 16 = .ok (.iinc 2 1, 3) := by decide +kernel
theorem dX11_reckons_19 : decode cX11_reckons 19 = .ok (.goto (-17), 3) := by decide +kernel
theorem dX11_reckons_22 : decode cX11_reckons 22 = .ok (.return_, 1) := by decide +kernel
theorem dX11_given_0 : decode cX11_given 0 = .ok (.aload_n 0, 1) := by decide +kernel
theorem dX11_given_1 : decode cX11_given 1 = .ok (.iload_n 1, 1) := by decide +kernel
theorem dX11_given_2 : decode cX11_given 2 = .ok (.invokevirtual 175, 3) := by decide +kernel
theorem dX11_given_5 : decode cX11_given 5 = .ok (.ifCond .eq 15, 3) := by decide +kernel
theorem dX11_given_8 : decode cX11_given 8 = .ok (.iload_n 2, 1) := by decide +kernel
theorem dX11_given_9 : decode cX11_given 9 = .ok (.ifCond .lt 11, 3) := by decide +kernel
theorem dX11_given_12 : decode cX11_given 12 = .ok (.iload_n 2, 1) := by decide +kernel
theorem dX11_given_13 : decode cX11_given 13 = .ok (.aload_n 0, 1) := by decide +kernel
theorem dX11_given_14 : decode cX11_given 14 = .ok (.getfield 71, 3) := by decide +kernel
theorem dX11_given_17 : decode cX11_given 17 = .ok (.if_icmp .lt 7, 3) := by decide +kernel
theorem dX11_given_20 : decode cX11_given 20 = .ok (.ldc2_w 329, 3) := by decide +kernel
theorem dX11_given_23 : decode cX11_given 23 = .ok (.lreturn, 1) := by decide +kernel
theorem dX11_given_24 : decode cX11_given 24 = .ok (.aload_n 0, 1) := by decide +kernel
theorem dX11_given_25 : decode cX11_given 25 = .ok (.iload_n 1, 1) := by decide +kernel
theorem dX11_given_26 : decode cX11_given 26 = .ok (.aload_n 0, 1) := by decide +kernel
theorem dX11_given_27 : decode cX11_given 27 = .ok (.invokevirtual 179, 3) := by decide +kernel
theorem dX11_given_30 : decode cX11_given 30 = .ok (.invokevirtual 326, 3) := by decide +kernel
theorem dX11_given_33 : decode cX11_given 33 = .ok (.aload_n 0, 1) := by decide +kernel
theorem dX11_given_34 : decode cX11_given 34 = .ok (.getfield 139, 3) := by decide +kernel
theorem dX11_given_37 : decode cX11_given 37 = .ok (.bipush 24, 2) := by decide +kernel
theorem dX11_given_39 : decode cX11_given 39 = .ok (.iload_n 1, 1) := by decide +kernel
theorem dX11_given_40 : decode cX11_given 40 = .ok (.imul, 1) := by decide +kernel
theorem dX11_given_41 : decode cX11_given 41 = .ok (.iload_n 2, 1) := by decide +kernel
theorem dX11_given_42 : decode cX11_given 42 = .ok (.iadd, 1) := by decide +kernel
theorem dX11_given_43 : decode cX11_given 43 = .ok (.laload, 1) := by decide +kernel
theorem dX11_given_44 : decode cX11_given 44 = .ok (.lreturn, 1) := by decide +kernel
theorem dX11_totalOf_0 : decode cX11_totalOf 0 = .ok (.aload_n 0, 1) := by decide +kernel
theorem dX11_totalOf_1 : decode cX11_totalOf 1 = .ok (.getfield 83, 3) := by decide +kernel
theorem dX11_totalOf_4 : decode cX11_totalOf 4 = .ok (.iconst (-1), 1) := by decide +kernel
theorem dX11_totalOf_5 : decode cX11_totalOf 5 = .ok (.if_icmp .ne 7, 3) := by decide +kernel
theorem dX11_totalOf_8 : decode cX11_totalOf 8 = .ok (.lconst 0, 1) := by decide +kernel
theorem dX11_totalOf_9 : decode cX11_totalOf 9 = .ok (.goto 17, 3) := by decide +kernel
theorem dX11_totalOf_12 : decode cX11_totalOf 12 = .ok (.aload_n 0, 1) := by decide +kernel
theorem dX11_totalOf_13 : decode cX11_totalOf 13 = .ok (.getfield 139, 3) := by decide +kernel
theorem dX11_totalOf_16 : decode cX11_totalOf 16 = .ok (.bipush 24, 2) := by decide +kernel
theorem dX11_totalOf_18 : decode cX11_totalOf 18 = .ok (.iload_n 1, 1) := by decide +kernel
theorem dX11_totalOf_19 : decode cX11_totalOf 19 = .ok (.imul, 1) := by decide +kernel
theorem dX11_totalOf_20 : decode cX11_totalOf 20 = .ok (.aload_n 0, 1) := by decide +kernel
theorem dX11_totalOf_21 : decode cX11_totalOf 21 = .ok (.getfield 83, 3) := by decide +kernel
theorem dX11_totalOf_24 : decode cX11_totalOf 24 = .ok (.iadd, 1) := by decide +kernel
theorem dX11_totalOf_25 : decode cX11_totalOf 25 = .ok (.laload, 1) := by decide +kernel
theorem dX11_totalOf_26 : decode cX11_totalOf 26 = .ok (.lreturn, 1) := by decide +kernel
theorem dX11_total_0 : decode cX11_total 0 = .ok (.aload_n 0, 1) := by decide +kernel
theorem dX11_total_1 : decode cX11_total 1 = .ok (.iload_n 1, 1) := by decide +kernel
theorem dX11_total_2 : decode cX11_total 2 = .ok (.invokevirtual 175, 3) := by decide +kernel
theorem dX11_total_5 : decode cX11_total 5 = .ok (.ifCond .ne 7, 3) := by decide +kernel
theorem dX11_total_8 : decode cX11_total 8 = .ok (.ldc2_w 329, 3) := by decide +kernel
theorem dX11_total_11 : decode cX11_total 11 = .ok (.lreturn, 1) := by decide +kernel
theorem dX11_total_12 : decode cX11_total 12 = .ok (.aload_n 0, 1) := by decide +kernel
theorem dX11_total_13 : decode cX11_total 13 = .ok (.iload_n 1, 1) := by decide +kernel
theorem dX11_total_14 : decode cX11_total 14 = .ok (.aload_n 0, 1) := by decide +kernel
theorem dX11_total_15 : decode cX11_total 15 = .ok (.invokevirtual 179, 3) := by decide +kernel
theorem dX11_total_18 : decode cX11_total 18 = .ok (.invokevirtual 326, 3) := by decide +kernel
theorem dX11_total_21 : decode cX11_total 21 = .ok (.aload_n 0, 1) := by decide +kernel
theorem dX11_total_22 : decode cX11_total 22 = .ok (.iload_n 1, 1) := by decide +kernel
theorem dX11_total_23 : decode cX11_total 23 = .ok (.invokevirtual 331, 3) := by decide +kernel
theorem dX11_total_26 : decode cX11_total 26 = .ok (.lreturn, 1) := by decide +kernel
theorem dX11_isOut__0 : decode cX11_isOut_ 0 = .ok (.aload_n 0, 1) := by decide +kernel
theorem dX11_isOut__1 : decode cX11_isOut_ 1 = .ok (.iload_n 1, 1) := by decide +kernel
theorem dX11_isOut__2 : decode cX11_isOut_ 2 = .ok (.invokevirtual 175, 3) := by decide +kernel
theorem dX11_isOut__5 : decode cX11_isOut_ 5 = .ok (.ifCond .ne 5, 3) := by decide +kernel
theorem dX11_isOut__8 : decode cX11_isOut_ 8 = .ok (.iconst (-1), 1) := by decide +kernel
theorem dX11_isOut__9 : decode cX11_isOut_ 9 = .ok (.ireturn, 1) := by decide +kernel
theorem dX11_isOut__10 : decode cX11_isOut_ 10 = .ok (.aload_n 0, 1) := by decide +kernel
theorem dX11_isOut__11 : decode cX11_isOut_ 11 = .ok (.iload_n 1, 1) := by decide +kernel
theorem dX11_isOut__12 : decode cX11_isOut_ 12 = .ok (.aload_n 0, 1) := by decide +kernel
theorem dX11_isOut__13 : decode cX11_isOut_ 13 = .ok (.invokevirtual 179, 3) := by decide +kernel
theorem dX11_isOut__16 : decode cX11_isOut_ 16 = .ok (.invokevirtual 326, 3) := by decide +kernel
theorem dX11_isOut__19 : decode cX11_isOut_ 19 = .ok (.aload_n 0, 1) := by decide +kernel
theorem dX11_isOut__20 : decode cX11_isOut_ 20 = .ok (.getfield 142, 3) := by decide +kernel
theorem dX11_isOut__23 : decode cX11_isOut_ 23 = .ok (.iload_n 1, 1) := by decide +kernel
theorem dX11_isOut__24 : decode cX11_isOut_ 24 = .ok (.baload, 1) := by decide +kernel
theorem dX11_isOut__25 : decode cX11_isOut_ 25 = .ok (.ifCond .eq 7, 3) := by decide +kernel
theorem dX11_isOut__28 : decode cX11_isOut_ 28 = .ok (.iconst 1, 1) := by decide +kernel
theorem dX11_isOut__29 : decode cX11_isOut_ 29 = .ok (.goto 4, 3) := by decide +kernel
theorem dX11_isOut__32 : decode cX11_isOut_ 32 = .ok (.iconst 0, 1) := by decide +kernel
theorem dX11_isOut__33 : decode cX11_isOut_ 33 = .ok (.ireturn, 1) := by decide +kernel
theorem dX11_stand_0 : decode cX11_stand 0 = .ok (.aload_n 0, 1) := by decide +kernel
theorem dX11_stand_1 : decode cX11_stand 1 = .ok (.iload_n 1, 1) := by decide +kernel
theorem dX11_stand_2 : decode cX11_stand 2 = .ok (.invokevirtual 331, 3) := by decide +kernel
theorem dX11_stand_5 : decode cX11_stand 5 = .ok (.aload_n 0, 1) := by decide +kernel
theorem dX11_stand_6 : decode cX11_stand 6 = .ok (.iload_n 2, 1) := by decide +kernel
theorem dX11_stand_7 : decode cX11_stand 7 = .ok (.invokevirtual 331, 3) := by decide +kernel
theorem dX11_stand_10 : decode cX11_stand 10 = .ok (.lcmp, 1) := by decide +kernel
theorem dX11_stand_11 : decode cX11_stand 11 = .ok (.ifCond .eq 23, 3) := by decide +kernel
theorem dX11_stand_14 : decode cX11_stand 14 = .ok (.aload_n 0, 1) := by decide +kernel
theorem dX11_stand_15 : decode cX11_stand 15 = .ok (.iload_n 1, 1) := by decide +kernel
theorem dX11_stand_16 : decode cX11_stand 16 = .ok (.invokevirtual 331, 3) := by decide +kernel
theorem dX11_stand_19 : decode cX11_stand 19 = .ok (.aload_n 0, 1) := by decide +kernel
theorem dX11_stand_20 : decode cX11_stand 20 = .ok (.iload_n 2, 1) := by decide +kernel
theorem dX11_stand_21 : decode cX11_stand 21 = .ok (.invokevirtual 331, 3) := by decide +kernel
theorem dX11_stand_24 : decode cX11_stand 24 = .ok (.lcmp, 1) := by decide +kernel
theorem dX11_stand_25 : decode cX11_stand 25 = .ok (.ifCond .ge 7, 3) := by decide +kernel
theorem dX11_stand_28 : decode cX11_stand 28 = .ok (.iconst (-1), 1) := by decide +kernel
theorem dX11_stand_29 : decode cX11_stand 29 = .ok (.goto 4, 3) := by decide +kernel
theorem dX11_stand_32 : decode cX11_stand 32 = .ok (.iconst 1, 1) := by decide +kernel
theorem dX11_stand_33 : decode cX11_stand 33 = .ok (.ireturn, 1) := by decide +kernel
theorem dX11_stand_34 : decode cX11_stand 34 = .ok (.iconst 0, 1) := by decide +kernel
theorem dX11_stand_35 : decode cX11_stand 35 = .ok (.istore_n 3, 1) := by decide +kernel
theorem dX11_stand_36 : decode cX11_stand 36 = .ok (.iload_n 3, 1) := by decide +kernel
theorem dX11_stand_37 : decode cX11_stand 37 = .ok (.aload_n 0, 1) := by decide +kernel
theorem dX11_stand_38 : decode cX11_stand 38 = .ok (.getfield 71, 3) := by decide +kernel
theorem dX11_stand_41 : decode cX11_stand 41 = .ok (.if_icmp .ge 80, 3) := by decide +kernel
theorem dX11_stand_44 : decode cX11_stand 44 = .ok (.aload_n 0, 1) := by decide +kernel
theorem dX11_stand_45 : decode cX11_stand 45 = .ok (.getfield 74, 3) := by decide +kernel
theorem dX11_stand_48 : decode cX11_stand 48 = .ok (.iload_n 3, 1) := by decide +kernel
theorem dX11_stand_49 : decode cX11_stand 49 = .ok (.iaload, 1) := by decide +kernel
theorem dX11_stand_50 : decode cX11_stand 50 = .ok (.iconst 2, 1) := by decide +kernel
theorem dX11_stand_51 : decode cX11_stand 51 = .ok (.if_icmp .ne 64, 3) := by decide +kernel
theorem dX11_stand_54 : decode cX11_stand 54 = .ok (.aload_n 0, 1) := by decide +kernel
theorem dX11_stand_55 : decode cX11_stand 55 = .ok (.getfield 139, 3) := by decide +kernel
theorem dX11_stand_58 : decode cX11_stand 58 = .ok (.bipush 24, 2) := by decide +kernel
theorem dX11_stand_60 : decode cX11_stand 60 = .ok (.iload_n 1, 1) := by decide +kernel
theorem dX11_stand_61 : decode cX11_stand 61 = .ok (.imul, 1) := by decide +kernel
theorem dX11_stand_62 : decode cX11_stand 62 = .ok (.iload_n 3, 1) := by decide +kernel
theorem dX11_stand_63 : decode cX11_stand 63 = .ok (.iadd, 1) := by decide +kernel
theorem dX11_stand_64 : decode cX11_stand 64 = .ok (.laload, 1) := by decide +kernel
theorem dX11_stand_65 : decode cX11_stand 65 = .ok (.aload_n 0, 1) := by decide +kernel
theorem dX11_stand_66 : decode cX11_stand 66 = .ok (.getfield 139, 3) := by decide +kernel
theorem dX11_stand_69 : decode cX11_stand 69 = .ok (.bipush 24, 2) := by decide +kernel
theorem dX11_stand_71 : decode cX11_stand 71 = .ok (.iload_n 2, 1) := by decide +kernel
theorem dX11_stand_72 : decode cX11_stand 72 = .ok (.imul, 1) := by decide +kernel
theorem dX11_stand_73 : decode cX11_stand 73 = .ok (.iload_n 3, 1) := by decide +kernel
theorem dX11_stand_74 : decode cX11_stand 74 = .ok (.iadd, 1) := by decide +kernel
theorem dX11_stand_75 : decode cX11_stand 75 = .ok (.laload, 1) := by decide +kernel
theorem dX11_stand_76 : decode cX11_stand 76 = .ok (.lcmp, 1) := by decide +kernel
theorem dX11_stand_77 : decode cX11_stand 77 = .ok (.ifCond .ne 6, 3) := by decide +kernel
theorem dX11_stand_80 : decode cX11_stand 80 = .ok (.goto 35, 3) := by decide +kernel
theorem dX11_stand_83 : decode cX11_stand 83 = .ok (.aload_n 0, 1) := by decide +kernel
theorem dX11_stand_84 : decode cX11_stand 84 = .ok (.getfield 139, 3) := by decide +kernel
theorem dX11_stand_87 : decode cX11_stand 87 = .ok (.bipush 24, 2) := by decide +kernel
theorem dX11_stand_89 : decode cX11_stand 89 = .ok (.iload_n 1, 1) := by decide +kernel
theorem dX11_stand_90 : decode cX11_stand 90 = .ok (.imul, 1) := by decide +kernel
theorem dX11_stand_91 : decode cX11_stand 91 = .ok (.iload_n 3, 1) := by decide +kernel
theorem dX11_stand_92 : decode cX11_stand 92 = .ok (.iadd, 1) := by decide +kernel
theorem dX11_stand_93 : decode cX11_stand 93 = .ok (.laload, 1) := by decide +kernel
theorem dX11_stand_94 : decode cX11_stand 94 = .ok (.aload_n 0, 1) := by decide +kernel
theorem dX11_stand_95 : decode cX11_stand 95 = .ok (.getfield 139, 3) := by decide +kernel
theorem dX11_stand_98 : decode cX11_stand 98 = .ok (.bipush 24, 2) := by decide +kernel
theorem dX11_stand_100 : decode cX11_stand 100 = .ok (.iload_n 2, 1) := by decide +kernel
theorem dX11_stand_101 : decode cX11_stand 101 = .ok (.imul, 1) := by decide +kernel
theorem dX11_stand_102 : decode cX11_stand 102 = .ok (.iload_n 3, 1) := by decide +kernel
theorem dX11_stand_103 : decode cX11_stand 103 = .ok (.iadd, 1) := by decide +kernel
theorem dX11_stand_104 : decode cX11_stand 104 = .ok (.laload, 1) := by decide +kernel
theorem dX11_stand_105 : decode cX11_stand 105 = .ok (.lcmp, 1) := by decide +kernel
theorem dX11_stand_106 : decode cX11_stand 106 = .ok (.ifCond .ge 7, 3) := by decide +kernel
theorem dX11_stand_109 : decode cX11_stand 109 = .ok (.iconst (-1), 1) := by decide +kernel
theorem dX11_stand_110 : decode cX11_stand 110 = .ok (.goto 4, 3) := by decide +kernel
theorem dX11_stand_113 : decode cX11_stand 113 = .ok (.iconst 1, 1) := by decide +kernel
theorem dX11_stand_114 : decode cX11_stand 114 = .ok (.ireturn, 1) := by decide +kernel
theorem dX11_stand_115 : decode cX11_stand 115 = .ok (.iinc 3 1, 3) := by decide +kernel
theorem dX11_stand_118 : decode cX11_stand 118 = .ok (.goto (-82), 3) := by decide +kernel
theorem dX11_stand_121 : decode cX11_stand 121 = .ok (.iconst 0, 1) := by decide +kernel
theorem dX11_stand_122 : decode cX11_stand 122 = .ok (.ireturn, 1) := by decide +kernel
theorem dX11_against_0 : decode cX11_against 0 = .ok (.aload_n 0, 1) := by decide +kernel
theorem dX11_against_1 : decode cX11_against 1 = .ok (.iload_n 1, 1) := by decide +kernel
theorem dX11_against_2 : decode cX11_against 2 = .ok (.invokevirtual 175, 3) := by decide +kernel
theorem dX11_against_5 : decode cX11_against 5 = .ok (.ifCond .eq 11, 3) := by decide +kernel
theorem dX11_against_8 : decode cX11_against 8 = .ok (.aload_n 0, 1) := by decide +kernel
theorem dX11_against_9 : decode cX11_against 9 = .ok (.iload_n 2, 1) := by decide +kernel
theorem dX11_against_10 : decode cX11_against 10 = .ok (.invokevirtual 175, 3) := by decide +kernel
theorem dX11_against_13 : decode cX11_against 13 = .ok (.ifCond .ne 6, 3) := by decide +kernel
theorem dX11_against_16 : decode cX11_against 16 = .ok (.bipush (-2), 2) := by decide +kernel
theorem dX11_against_18 : decode cX11_against 18 = .ok (.ireturn, 1) := by decide +kernel
theorem dX11_against_19 : decode cX11_against 19 = .ok (.aload_n 0, 1) := by decide +kernel
theorem dX11_against_20 : decode cX11_against 20 = .ok (.aload_n 0, 1) := by decide +kernel
theorem dX11_against_21 : decode cX11_against 21 = .ok (.invokevirtual 179, 3) := by decide +kernel
theorem dX11_against_24 : decode cX11_against 24 = .ok (.invokevirtual 335, 3) := by decide +kernel
theorem dX11_against_27 : decode cX11_against 27 = .ok (.aload_n 0, 1) := by decide +kernel
theorem dX11_against_28 : decode cX11_against 28 = .ok (.getfield 142, 3) := by decide +kernel
theorem dX11_against_31 : decode cX11_against 31 = .ok (.iload_n 1, 1) := by decide +kernel
theorem dX11_against_32 : decode cX11_against 32 = .ok (.baload, 1) := by decide +kernel
theorem dX11_against_33 : decode cX11_against 33 = .ok (.ifCond .ne 12, 3) := by decide +kernel
theorem dX11_against_36 : decode cX11_against 36 = .ok (.aload_n 0, 1) := by decide +kernel
theorem dX11_against_37 : decode cX11_against 37 = .ok (.getfield 142, 3) := by decide +kernel
theorem dX11_against_40 : decode cX11_against 40 = .ok (.iload_n 2, 1) := by decide +kernel
theorem dX11_against_41 : decode cX11_against 41 = .ok (.baload, 1) := by decide +kernel
theorem dX11_against_42 : decode cX11_against 42 = .ok (.ifCond .eq 8, 3) := by decide +kernel
theorem dX11_against_45 : decode cX11_against 45 = .ok (.bipush (-2), 2) := by decide +kernel
theorem dX11_against_47 : decode cX11_against 47 = .ok (.goto 9, 3) := by decide +kernel
theorem dX11_against_50 : decode cX11_against 50 = .ok (.aload_n 0, 1) := by decide +kernel
theorem dX11_against_51 : decode cX11_against 51 = .ok (.iload_n 1, 1) := by decide +kernel
theorem dX11_against_52 : decode cX11_against 52 = .ok (.iload_n 2, 1) := by decide +kernel
theorem dX11_against_53 : decode cX11_against 53 = .ok (.invokevirtual 338, 3) := by decide +kernel
theorem dX11_against_56 : decode cX11_against 56 = .ok (.ireturn, 1) := by decide +kernel
theorem dX11_placeOf_0 : decode cX11_placeOf 0 = .ok (.aload_n 0, 1) := by decide +kernel
theorem dX11_placeOf_1 : decode cX11_placeOf 1 = .ok (.getfield 142, 3) := by decide +kernel
theorem dX11_placeOf_4 : decode cX11_placeOf 4 = .ok (.iload_n 1, 1) := by decide +kernel
theorem dX11_placeOf_5 : decode cX11_placeOf 5 = .ok (.baload, 1) := by decide +kernel
theorem dX11_placeOf_6 : decode cX11_placeOf 6 = .ok (.ifCond .eq 5, 3) := by decide +kernel
theorem dX11_placeOf_9 : decode cX11_placeOf 9 = .ok (.iconst 0, 1) := by decide +kernel
theorem dX11_placeOf_10 : decode cX11_placeOf 10 = .ok (.ireturn, 1) := by decide +kernel
theorem dX11_placeOf_11 : decode cX11_placeOf 11 = .ok (.iconst 1, 1) := by decide +kernel
theorem dX11_placeOf_12 : decode cX11_placeOf 12 = .ok (.istore_n 2, 1) := by decide +kernel
theorem dX11_placeOf_13 : decode cX11_placeOf 13 = .ok (.iconst 0, 1) := by decide +kernel
theorem dX11_placeOf_14 : decode cX11_placeOf 14 = .ok (.istore_n 3, 1) := by decide +kernel
theorem dX11_placeOf_15 : decode cX11_placeOf 15 = .ok (.iload_n 3, 1) := by decide +kernel
theorem dX11_placeOf_16 : decode cX11_placeOf 16 = .ok (.aload_n 0, 1) := by decide +kernel
theorem dX11_placeOf_17 : decode cX11_placeOf 17 = .ok (.getfield 17, 3) := by decide +kernel
theorem dX11_placeOf_20 : decode cX11_placeOf 20 = .ok (.if_icmp .ge 35, 3) := by decide +kernel
theorem dX11_placeOf_23 : decode cX11_placeOf 23 = .ok (.iload_n 2, 1) := by decide +kernel
theorem dX11_placeOf_24 : decode cX11_placeOf 24 = .ok (.aload_n 0, 1) := by decide +kernel
theorem dX11_placeOf_25 : decode cX11_placeOf 25 = .ok (.getfield 142, 3) := by decide +kernel
theorem dX11_placeOf_28 : decode cX11_placeOf 28 = .ok (.iload_n 3, 1) := by decide +kernel
theorem dX11_placeOf_29 : decode cX11_placeOf 29 = .ok (.baload, 1) := by decide +kernel
theorem dX11_placeOf_30 : decode cX11_placeOf 30 = .ok (.ifCond .ne 16, 3) := by decide +kernel
theorem dX11_placeOf_33 : decode cX11_placeOf 33 = .ok (.aload_n 0, 1) := by decide +kernel
theorem dX11_placeOf_34 : decode cX11_placeOf 34 = .ok (.iload_n 3, 1) := by decide +kernel
theorem dX11_placeOf_35 : decode cX11_placeOf 35 = .ok (.iload_n 1, 1) := by decide +kernel
theorem dX11_placeOf_36 : decode cX11_placeOf 36 = .ok (.invokevirtual 338, 3) := by decide +kernel
theorem dX11_placeOf_39 : decode cX11_placeOf 39 = .ok (.ifCond .ge 7, 3) := by decide +kernel
theorem dX11_placeOf_42 : decode cX11_placeOf 42 = .ok (.iconst 1, 1) := by decide +kernel
theorem dX11_placeOf_43 : decode cX11_placeOf 43 = .ok (.goto 4, 3) := by decide +kernel
theorem dX11_placeOf_46 : decode cX11_placeOf 46 = .ok (.iconst 0, 1) := by decide +kernel
theorem dX11_placeOf_47 : decode cX11_placeOf 47 = .ok (.iadd, 1) := by decide +kernel
theorem dX11_placeOf_48 : decode cX11_placeOf 48 = .ok (.istore_n 2, 1) := by decide +kernel
theorem dX11_placeOf_49 : decode cX11_placeOf 49 = .ok (.iinc 3 1, 3) := by decide +kernel
theorem dX11_placeOf_52 : decode cX11_placeOf 52 = .ok (.goto (-37), 3) := by decide +kernel
theorem dX11_placeOf_55 : decode cX11_placeOf 55 = .ok (.iload_n 2, 1) := by decide +kernel
theorem dX11_placeOf_56 : decode cX11_placeOf 56 = .ok (.ireturn, 1) := by decide +kernel
theorem dX11_place_0 : decode cX11_place 0 = .ok (.aload_n 0, 1) := by decide +kernel
theorem dX11_place_1 : decode cX11_place 1 = .ok (.iload_n 1, 1) := by decide +kernel
theorem dX11_place_2 : decode cX11_place 2 = .ok (.invokevirtual 175, 3) := by decide +kernel
theorem dX11_place_5 : decode cX11_place 5 = .ok (.ifCond .ne 5, 3) := by decide +kernel
theorem dX11_place_8 : decode cX11_place 8 = .ok (.iconst (-1), 1) := by decide +kernel
theorem dX11_place_9 : decode cX11_place 9 = .ok (.ireturn, 1) := by decide +kernel
theorem dX11_place_10 : decode cX11_place 10 = .ok (.aload_n 0, 1) := by decide +kernel
theorem dX11_place_11 : decode cX11_place 11 = .ok (.aload_n 0, 1) := by decide +kernel
theorem dX11_place_12 : decode cX11_place 12 = .ok (.invokevirtual 179, 3) := by decide +kernel
theorem dX11_place_15 : decode cX11_place 15 = .ok (.invokevirtual 335, 3) := by decide +kernel
theorem dX11_place_18 : decode cX11_place 18 = .ok (.aload_n 0, 1) := by decide +kernel
theorem dX11_place_19 : decode cX11_place 19 = .ok (.iload_n 1, 1) := by decide +kernel
theorem dX11_place_20 : decode cX11_place 20 = .ok (.invokevirtual 341, 3) := by decide +kernel
theorem dX11_place_23 : decode cX11_place 23 = .ok (.ireturn, 1) := by decide +kernel
theorem dX11_hasRiders_0 : decode cX11_hasRiders 0 = .ok (.iconst 0, 1) := by decide +kernel
theorem dX11_hasRiders_1 : decode cX11_hasRiders 1 = .ok (.istore_n 2, 1) := by decide +kernel
theorem dX11_hasRiders_2 : decode cX11_hasRiders 2 = .ok (.iconst 0, 1) := by decide +kernel
theorem dX11_hasRiders_3 : decode cX11_hasRiders 3 = .ok (.istore_n 3, 1) := by decide +kernel
theorem dX11_hasRiders_4 : decode cX11_hasRiders 4 = .ok (.iload_n 3, 1) := by decide +kernel
theorem dX11_hasRiders_5 : decode cX11_hasRiders 5 = .ok (.aload_n 0, 1) := by decide +kernel
theorem dX11_hasRiders_6 : decode cX11_hasRiders 6 = .ok (.getfield 17, 3) := by decide +kernel
theorem dX11_hasRiders_9 : decode cX11_hasRiders 9 = .ok (.if_icmp .ge 29, 3) := by decide +kernel
theorem dX11_hasRiders_12 : decode cX11_hasRiders 12 = .ok (.iload_n 2, 1) := by decide +kernel
theorem dX11_hasRiders_13 : decode cX11_hasRiders 13 = .ok (.ifCond .ne 13, 3) := by decide +kernel
theorem dX11_hasRiders_16 : decode cX11_hasRiders 16 = .ok (.aload_n 0, 1) := by decide +kernel
theorem dX11_hasRiders_17 : decode cX11_hasRiders 17 = .ok (.getfield 20, 3) := by decide +kernel
theorem dX11_hasRiders_20 : decode cX11_hasRiders 20 = .ok (.iload_n 3, 1) := by decide +kernel
theorem dX11_hasRiders_21 : decode cX11_hasRiders 21 = .ok (.iaload, 1) := by decide +kernel
theorem dX11_hasRiders_22 : decode cX11_hasRiders 22 = .ok (.iload_n 1, 1) := by decide +kernel
theorem dX11_hasRiders_23 : decode cX11_hasRiders 23 = .ok (.if_icmp .ne 7, 3) := by decide +kernel
theorem dX11_hasRiders_26 : decode cX11_hasRiders 26 = .ok (.iconst 1, 1) := by decide +kernel
theorem dX11_hasRiders_27 : decode cX11_hasRiders 27 = .ok (.goto 4, 3) := by decide +kernel
theorem dX11_hasRiders_30 : decode cX11_hasRiders 30 = .ok (.iconst 0, 1) := by decide +kernel
theorem dX11_hasRiders_31 : decode cX11_hasRiders 31 = .ok (.istore_n 2, 1) := by decide +kernel
theorem dX11_hasRiders_32 : decode cX11_hasRiders 32 = .ok (.iinc 3 1, 3) := by decide +kernel
theorem dX11_hasRiders_35 : decode cX11_hasRiders 35 = .ok (.goto (-31), 3) := by decide +kernel
theorem dX11_hasRiders_38 : decode cX11_hasRiders 38 = .ok (.iload_n 2, 1) := by decide +kernel
theorem dX11_hasRiders_39 : decode cX11_hasRiders 39 = .ok (.ifCond .eq 11, 3) := by decide +kernel
theorem dX11_hasRiders_42 : decode cX11_hasRiders 42 = .ok (.iload_n 1, 1) := by decide +kernel
theorem dX11_hasRiders_43 : decode cX11_hasRiders 43 = .ok (.ifCond .lt 7, 3) := by decide +kernel
theorem dX11_hasRiders_46 : decode cX11_hasRiders 46 = .ok (.iconst 1, 1) := by decide +kernel
theorem dX11_hasRiders_47 : decode cX11_hasRiders 47 = .ok (.goto 4, 3) := by decide +kernel
theorem dX11_hasRiders_50 : decode cX11_hasRiders 50 = .ok (.iconst 0, 1) := by decide +kernel
theorem dX11_hasRiders_51 : decode cX11_hasRiders 51 = .ok (.ireturn, 1) := by decide +kernel
theorem dX11_least_0 : decode cX11_least 0 = .ok (.iconst 0, 1) := by decide +kernel
theorem dX11_least_1 : decode cX11_least 1 = .ok (.istore_n 3, 1) := by decide +kernel
theorem dX11_least_2 : decode cX11_least 2 = .ok (.iload_n 3, 1) := by decide +kernel
theorem dX11_least_3 : decode cX11_least 3 = .ok (.aload_n 0, 1) := by decide +kernel
theorem dX11_least_4 : decode cX11_least 4 = .ok (.getfield 17, 3) := by decide +kernel
theorem dX11_least_7 : decode cX11_least 7 = .ok (.if_icmp .ge 131, 3) := by decide +kernel
theorem dX11_least_10 : decode cX11_least 10 = .ok (.aload_n 0, 1) := by decide +kernel
theorem dX11_least_11 : decode cX11_least 11 = .ok (.getfield 20, 3) := by decide +kernel
theorem dX11_least_14 : decode cX11_least 14 = .ok (.iload_n 3, 1) := by decide +kernel
theorem dX11_least_15 : decode cX11_least 15 = .ok (.iaload, 1) := by decide +kernel
theorem dX11_least_16 : decode cX11_least 16 = .ok (.iload_n 1, 1) := by decide +kernel
theorem dX11_least_17 : decode cX11_least 17 = .ok (.if_icmp .ne 115, 3) := by decide +kernel
theorem dX11_least_20 : decode cX11_least 20 = .ok (.aload_n 0, 1) := by decide +kernel
theorem dX11_least_21 : decode cX11_least 21 = .ok (.getfield 142, 3) := by decide +kernel
theorem dX11_least_24 : decode cX11_least 24 = .ok (.iload_n 3, 1) := by decide +kernel
theorem dX11_least_25 : decode cX11_least 25 = .ok (.baload, 1) := by decide +kernel
theorem dX11_least_26 : decode cX11_least 26 = .ok (.ifCond .eq 6, 3) := by decide +kernel
theorem dX11_least_29 : decode cX11_least 29 = .ok (.goto 103, 3) := by decide +kernel
theorem dX11_least_32 : decode cX11_least 32 = .ok (.iconst 0, 1) := by decide +kernel
theorem dX11_least_33 : decode cX11_least 33 = .ok (.istore 4, 2) := by decide +kernel
theorem dX11_least_35 : decode cX11_least 35 = .ok (.iconst 0, 1) := by decide +kernel
theorem dX11_least_36 : decode cX11_least 36 = .ok (.istore 5, 2) := by decide +kernel
theorem dX11_least_38 : decode cX11_least 38 = .ok (.iload 5, 2) := by decide +kernel
theorem dX11_least_40 : decode cX11_least 40 = .ok (.aload_n 0, 1) := by decide +kernel
theorem dX11_least_41 : decode cX11_least 41 = .ok (.getfield 17, 3) := by decide +kernel
theorem dX11_least_44 : decode cX11_least 44 = .ok (.if_icmp .ge 76, 3) := by decide +kernel
theorem dX11_least_47 : decode cX11_least 47 = .ok (.iload 4, 2) := by decide +kernel
theorem dX11_least_49 : decode cX11_least 49 = .ok (.aload_n 0, 1) := by decide +kernel
theorem dX11_least_50 : decode cX11_least 50 = .ok (.getfield 20, 3) := by decide +kernel
theorem dX11_least_53 : decode cX11_least 53 = .ok (.iload 5, 2) := by decide +kernel
theorem dX11_least_55 : decode cX11_least 55 = .ok (.iaload, 1) := by decide +kernel
theorem dX11_least_56 : decode cX11_least 56 = .ok (.iload_n 1, 1) := by decide +kernel
theorem dX11_least_57 : decode cX11_least 57 = .ok (.if_icmp .ne 53, 3) := by decide +kernel
theorem dX11_least_60 : decode cX11_least 60 = .ok (.aload_n 0, 1) := by decide +kernel
theorem dX11_least_61 : decode cX11_least 61 = .ok (.getfield 142, 3) := by decide +kernel
theorem dX11_least_64 : decode cX11_least 64 = .ok (.iload 5, 2) := by decide +kernel
theorem dX11_least_66 : decode cX11_least 66 = .ok (.baload, 1) := by decide +kernel
theorem dX11_least_67 : decode cX11_least 67 = .ok (.ifCond .ne 43, 3) := by decide +kernel
theorem dX11_least_70 : decode cX11_least 70 = .ok (.aload_n 0, 1) := by decide +kernel
theorem dX11_least_71 : decode cX11_least 71 = .ok (.iload 5, 2) := by decide +kernel
theorem dX11_least_73 : decode cX11_least 73 = .ok (.invokevirtual 331, 3) := by decide +kernel
theorem dX11_least_76 : decode cX11_least 76 = .ok (.aload_n 0, 1) := by decide +kernel
theorem dX11_least_77 : decode cX11_least 77 = .ok (.iload_n 3, 1) := by decide +kernel
theorem dX11_least_78 : decode cX11_least 78 = .ok (.invokevirtual 331, 3) := by decide +kernel
theorem dX11_least_81 : decode cX11_least 81 = .ok (.lcmp, 1) := by decide +kernel
theorem dX11_least_82 : decode cX11_least 82 = .ok (.ifCond .lt 24, 3) := by decide +kernel
theorem dX11_least_85 : decode cX11_least 85 = .ok (.aload_n 0, 1) := by decide +kernel
theorem dX11_least_86 : decode cX11_least 86 = .ok (.iload 5, 2) := by decide +kernel
theorem dX11_least_88 : decode cX11_least 88 = .ok (.invokevirtual 331, 3) := by decide +kernel
theorem dX11_least_91 : decode cX11_least 91 = .ok (.aload_n 0, 1) := by decide +kernel
theorem dX11_least_92 : decode cX11_least 92 = .ok (.iload_n 3, 1) := by decide +kernel
theorem dX11_least_93 : decode cX11_least 93 = .ok (.invokevirtual 331, 3) := by decide +kernel
theorem dX11_least_96 : decode cX11_least 96 = .ok (.lcmp, 1) := by decide +kernel
theorem dX11_least_97 : decode cX11_least 97 = .ok (.ifCond .ne 13, 3) := by decide +kernel
theorem dX11_least_100 : decode cX11_least 100 = .ok (.iload 5, 2) := by decide +kernel
theorem dX11_least_102 : decode cX11_least 102 = .ok (.iload_n 3, 1) := by decide +kernel
theorem dX11_least_103 : decode cX11_least 103 = .ok (.if_icmp .ge 7, 3) := by decide +kernel
theorem dX11_least_106 : decode cX11_least 106 = .ok (.iconst 1, 1) := by decide +kernel
theorem dX11_least_107 : decode cX11_least 107 = .ok (.goto 4, 3) := by decide +kernel
theorem dX11_least_110 : decode cX11_least 110 = .ok (.iconst 0, 1) := by decide +kernel
theorem dX11_least_111 : decode cX11_least 111 = .ok (.iadd, 1) := by decide +kernel
theorem dX11_least_112 : decode cX11_least 112 = .ok (.istore 4, 2) := by decide +kernel
theorem dX11_least_114 : decode cX11_least 114 = .ok (.iinc 5 1, 3) := by decide +kernel
theorem dX11_least_117 : decode cX11_least 117 = .ok (.goto (-79), 3) := by decide +kernel
theorem dX11_least_120 : decode cX11_least 120 = .ok (.iload 4, 2) := by decide +kernel
theorem dX11_least_122 : decode cX11_least 122 = .ok (.iload_n 2, 1) := by decide +kernel
theorem dX11_least_123 : decode cX11_least 123 = .ok (.if_icmp .ne 9, 3) := by decide +kernel
theorem dX11_least_126 : decode cX11_least 126 = .ok (.aload_n 0, 1) := by decide +kernel
theorem dX11_least_127 : decode cX11_least 127 = .ok (.iload_n 3, 1) := by decide +kernel
theorem dX11_least_128 : decode cX11_least 128 = .ok (.invokevirtual 331, 3) := by decide +kernel
theorem dX11_least_131 : decode cX11_least 131 = .ok (.lreturn, 1) := by decide +kernel
theorem dX11_least_132 : decode cX11_least 132 = .ok (.iinc 3 1, 3) := by decide +kernel
theorem dX11_least_135 : decode cX11_least 135 = .ok (.goto (-133), 3) := by decide +kernel
theorem dX11_least_138 : decode cX11_least 138 = .ok (.ldc2_w 345, 3) := by decide +kernel
theorem dX11_least_141 : decode cX11_least 141 = .ok (.lreturn, 1) := by decide +kernel
theorem dX11_teamOf_0 : decode cX11_teamOf 0 = .ok (.aload_n 0, 1) := by decide +kernel
theorem dX11_teamOf_1 : decode cX11_teamOf 1 = .ok (.iload_n 1, 1) := by decide +kernel
theorem dX11_teamOf_2 : decode cX11_teamOf 2 = .ok (.iconst 0, 1) := by decide +kernel
theorem dX11_teamOf_3 : decode cX11_teamOf 3 = .ok (.invokevirtual 347, 3) := by decide +kernel
theorem dX11_teamOf_6 : decode cX11_teamOf 6 = .ok (.aload_n 0, 1) := by decide +kernel
theorem dX11_teamOf_7 : decode cX11_teamOf 7 = .ok (.iload_n 1, 1) := by decide +kernel
theorem dX11_teamOf_8 : decode cX11_teamOf 8 = .ok (.iconst 1, 1) := by decide +kernel
theorem dX11_teamOf_9 : decode cX11_teamOf 9 = .ok (.invokevirtual 347, 3) := by decide +kernel
theorem dX11_teamOf_12 : decode cX11_teamOf 12 = .ok (.ladd, 1) := by decide +kernel
theorem dX11_teamOf_13 : decode cX11_teamOf 13 = .ok (.aload_n 0, 1) := by decide +kernel
theorem dX11_teamOf_14 : decode cX11_teamOf 14 = .ok (.iload_n 1, 1) := by decide +kernel
theorem dX11_teamOf_15 : decode cX11_teamOf 15 = .ok (.iconst 2, 1) := by decide +kernel
theorem dX11_teamOf_16 : decode cX11_teamOf 16 = .ok (.invokevirtual 347, 3) := by decide +kernel
theorem dX11_teamOf_19 : decode cX11_teamOf 19 = .ok (.ladd, 1) := by decide +kernel
theorem dX11_teamOf_20 : decode cX11_teamOf 20 = .ok (.lreturn, 1) := by decide +kernel
theorem dX11_team_0 : decode cX11_team 0 = .ok (.iload_n 1, 1) := by decide +kernel
theorem dX11_team_1 : decode cX11_team 1 = .ok (.iconst 0, 1) := by decide +kernel
theorem dX11_team_2 : decode cX11_team 2 = .ok (.iconst 5, 1) := by decide +kernel
theorem dX11_team_3 : decode cX11_team 3 = .ok (.invokestatic 149, 3) := by decide +kernel
theorem dX11_team_6 : decode cX11_team 6 = .ok (.ifCond .eq 11, 3) := by decide +kernel
theorem dX11_team_9 : decode cX11_team 9 = .ok (.aload_n 0, 1) := by decide +kernel
theorem dX11_team_10 : decode cX11_team 10 = .ok (.iload_n 1, 1) := by decide +kernel
theorem dX11_team_11 : decode cX11_team 11 = .ok (.invokevirtual 350, 3) := by decide +kernel
theorem dX11_team_14 : decode cX11_team 14 = .ok (.ifCond .ne 7, 3) := by decide +kernel
theorem dX11_team_17 : decode cX11_team 17 = .ok (.ldc2_w 353, 3) := by decide +kernel
theorem dX11_team_20 : decode cX11_team 20 = .ok (.lreturn, 1) := by decide +kernel
theorem dX11_team_21 : decode cX11_team 21 = .ok (.aload_n 0, 1) := by decide +kernel
theorem dX11_team_22 : decode cX11_team 22 = .ok (.aload_n 0, 1) := by decide +kernel
theorem dX11_team_23 : decode cX11_team 23 = .ok (.invokevirtual 179, 3) := by decide +kernel
theorem dX11_team_26 : decode cX11_team 26 = .ok (.invokevirtual 335, 3) := by decide +kernel
theorem dX11_team_29 : decode cX11_team 29 = .ok (.aload_n 0, 1) := by decide +kernel
theorem dX11_team_30 : decode cX11_team 30 = .ok (.iload_n 1, 1) := by decide +kernel
theorem dX11_team_31 : decode cX11_team 31 = .ok (.invokevirtual 355, 3) := by decide +kernel
theorem dX11_team_34 : decode cX11_team 34 = .ok (.lreturn, 1) := by decide +kernel
theorem dX11_teamPlace_0 : decode cX11_teamPlace 0 = .ok (.iload_n 1, 1) := by decide +kernel
theorem dX11_teamPlace_1 : decode cX11_teamPlace 1 = .ok (.iconst 0, 1) := by decide +kernel
theorem dX11_teamPlace_2 : decode cX11_teamPlace 2 = .ok (.iconst 5, 1) := by decide +kernel
theorem dX11_teamPlace_3 : decode cX11_teamPlace 3 = .ok (.invokestatic 149, 3) := by decide +kernel
theorem dX11_teamPlace_6 : decode cX11_teamPlace 6 = .ok (.ifCond .eq 11, 3) := by decide +kernel
theorem dX11_teamPlace_9 : decode cX11_teamPlace 9 = .ok (.aload_n 0, 1) := by decide +kernel
theorem dX11_teamPlace_10 : decode cX11_teamPlace 10 = .ok (.iload_n 1, 1) := by decide +kernel
theorem dX11_teamPlace_11 : decode cX11_teamPlace 11 = .ok (.invokevirtual 350, 3) := by decide +kernel
theorem dX11_teamPlace_14 : decode cX11_teamPlace 14 = .ok (.ifCond .ne 5, 3) := by decide +kernel
theorem dX11_teamPlace_17 : decode cX11_teamPlace 17 = .ok (.iconst (-1), 1) := by decide +kernel
theorem dX11_teamPlace_18 : decode cX11_teamPlace 18 = .ok (.ireturn, 1) := by decide +kernel
theorem dX11_teamPlace_19 : decode cX11_teamPlace 19 = .ok (.aload_n 0, 1) := by decide +kernel
theorem dX11_teamPlace_20 : decode cX11_teamPlace 20 = .ok (.aload_n 0, 1) := by decide +kernel
theorem dX11_teamPlace_21 : decode cX11_teamPlace 21 = .ok (.invokevirtual 179, 3) := by decide +kernel
theorem dX11_teamPlace_24 : decode cX11_teamPlace 24 = .ok (.invokevirtual 335, 3) := by decide +kernel
theorem dX11_teamPlace_27 : decode cX11_teamPlace 27 = .ok (.iconst 1, 1) := by decide +kernel
theorem dX11_teamPlace_28 : decode cX11_teamPlace 28 = .ok (.istore_n 2, 1) := by decide +kernel
theorem dX11_teamPlace_29 : decode cX11_teamPlace 29 = .ok (.iconst 0, 1) := by decide +kernel
theorem dX11_teamPlace_30 : decode cX11_teamPlace 30 = .ok (.istore_n 3, 1) := by decide +kernel
theorem dX11_teamPlace_31 : decode cX11_teamPlace 31 = .ok (.iload_n 3, 1) := by decide +kernel
theorem dX11_teamPlace_32 : decode cX11_teamPlace 32 = .ok (.bipush 6, 2) := by decide +kernel
theorem dX11_teamPlace_34 : decode cX11_teamPlace 34 = .ok (.if_icmp .ge 81, 3) := by decide +kernel
theorem dX11_teamPlace_37 : decode cX11_teamPlace 37 = .ok (.aload_n 0, 1) := by decide +kernel
theorem dX11_teamPlace_38 : decode cX11_teamPlace 38 = .ok (.iload_n 3, 1) := by decide +kernel
theorem dX11_teamPlace_39 : decode cX11_teamPlace 39 = .ok (.invokevirtual 350, 3) := by decide +kernel
theorem dX11_teamPlace_42 : decode cX11_teamPlace 42 = .ok (.ifCond .eq 51, 3) := by decide +kernel
theorem dX11_teamPlace_45 : decode cX11_teamPlace 45 = .ok (.aload_n 0, 1) := by decide +kernel
theorem dX11_teamPlace_46 : decode cX11_teamPlace 46 = .ok (.iload_n 3, 1) := by decide +kernel
theorem dX11_teamPlace_47 : decode cX11_teamPlace 47 = .ok (.invokevirtual 355, 3) := by decide +kernel
theorem dX11_teamPlace_50 : decode cX11_teamPlace 50 = .ok (.aload_n 0, 1) := by decide +kernel
theorem dX11_teamPlace_51 : decode cX11_teamPlace 51 = .ok (.iload_n 1, 1) := by decide +kernel
theorem dX11_teamPlace_52 : decode cX11_teamPlace 52 = .ok (.invokevirtual 355, 3) := by decide +kernel
theorem dX11_teamPlace_55 : decode cX11_teamPlace 55 = .ok (.lcmp, 1) := by decide +kernel
theorem dX11_teamPlace_56 : decode cX11_teamPlace 56 = .ok (.ifCond .lt 33, 3) := by decide +kernel
theorem dX11_teamPlace_59 : decode cX11_teamPlace 59 = .ok (.aload_n 0, 1) := by decide +kernel
theorem dX11_teamPlace_60 : decode cX11_teamPlace 60 = .ok (.iload_n 3, 1) := by decide +kernel
theorem dX11_teamPlace_61 : decode cX11_teamPlace 61 = .ok (.invokevirtual 355, 3) := by decide +kernel
theorem dX11_teamPlace_64 : decode cX11_teamPlace 64 = .ok (.aload_n 0, 1) := by decide +kernel
theorem dX11_teamPlace_65 : decode cX11_teamPlace 65 = .ok (.iload_n 1, 1) := by decide +kernel
theorem dX11_teamPlace_66 : decode cX11_teamPlace 66 = .ok (.invokevirtual 355, 3) := by decide +kernel
theorem dX11_teamPlace_69 : decode cX11_teamPlace 69 = .ok (.lcmp, 1) := by decide +kernel
theorem dX11_teamPlace_70 : decode cX11_teamPlace 70 = .ok (.ifCond .ne 23, 3) := by decide +kernel
theorem dX11_teamPlace_73 : decode cX11_teamPlace 73 = .ok (.aload_n 0, 1) := by decide +kernel
theorem dX11_teamPlace_74 : decode cX11_teamPlace 74 = .ok (.iload_n 3, 1) := by decide +kernel
theorem dX11_teamPlace_75 : decode cX11_teamPlace 75 = .ok (.iconst 0, 1) := by decide +kernel
theorem dX11_teamPlace_76 : decode cX11_teamPlace 76 = .ok (.invokevirtual 347, 3) := by decide +kernel
theorem dX11_teamPlace_79 : decode cX11_teamPlace 79 = .ok (.aload_n 0, 1) := by decide +kernel
theorem dX11_teamPlace_80 : decode cX11_teamPlace 80 = .ok (.iload_n 1, 1) := by decide +kernel
theorem dX11_teamPlace_81 : decode cX11_teamPlace 81 = .ok (.iconst 0, 1) := by decide +kernel
theorem dX11_teamPlace_82 : decode cX11_teamPlace 82 = .ok (.invokevirtual 347, 3) := by decide +kernel
theorem dX11_teamPlace_85 : decode cX11_teamPlace 85 = .ok (.lcmp, 1) := by decide +kernel
theorem dX11_teamPlace_86 : decode cX11_teamPlace 86 = .ok (.ifCond .ge 7, 3) := by decide +kernel
theorem dX11_teamPlace_89 : decode cX11_teamPlace 89 = .ok (.iconst 1, 1) := by decide +kernel
theorem dX11_teamPlace_90 : decode cX11_teamPlace 90 = .ok (.goto 4, 3) := by decide +kernel
theorem dX11_teamPlace_93 : decode cX11_teamPlace 93 = .ok (.iconst 0, 1) := by decide +kernel
theorem dX11_teamPlace_94 : decode cX11_teamPlace 94 = .ok (.istore 4, 2) := by decide +kernel
theorem dX11_teamPlace_96 : decode cX11_teamPlace 96 = .ok (.iload_n 2, 1) := by decide +kernel
theorem dX11_teamPlace_97 : decode cX11_teamPlace 97 = .ok (.iload 4, 2) := by decide +kernel
theorem dX11_teamPlace_99 : decode cX11_teamPlace 99 = .ok (.ifCond .eq 7, 3) := by decide +kernel
theorem dX11_teamPlace_102 : decode cX11_teamPlace 102 = .ok (.iconst 1, 1) := by decide +kernel
theorem dX11_teamPlace_103 : decode cX11_teamPlace 103 = .ok (.goto 4, 3) := by decide +kernel
theorem dX11_teamPlace_106 : decode cX11_teamPlace 106 = .ok (.iconst 0, 1) := by decide +kernel
theorem dX11_teamPlace_107 : decode cX11_teamPlace 107 = .ok (.iadd, 1) := by decide +kernel
theorem dX11_teamPlace_108 : decode cX11_teamPlace 108 = .ok (.istore_n 2, 1) := by decide +kernel
theorem dX11_teamPlace_109 : decode cX11_teamPlace 109 = .ok (.iinc 3 1, 3) := by decide +kernel
theorem dX11_teamPlace_112 : decode cX11_teamPlace 112 = .ok (.goto (-81), 3) := by decide +kernel
theorem dX11_teamPlace_115 : decode cX11_teamPlace 115 = .ok (.iload_n 2, 1) := by decide +kernel
theorem dX11_teamPlace_116 : decode cX11_teamPlace 116 = .ok (.ireturn, 1) := by decide +kernel
theorem dX11_ring_0 : decode cX11_ring 0 = .ok (.aload_n 0, 1) := by decide +kernel
theorem dX11_ring_1 : decode cX11_ring 1 = .ok (.aload_n 0, 1) := by decide +kernel
theorem dX11_ring_2 : decode cX11_ring 2 = .ok (.invokevirtual 179, 3) := by decide +kernel
theorem dX11_ring_5 : decode cX11_ring 5 = .ok (.invokevirtual 335, 3) := by decide +kernel
theorem dX11_ring_8 : decode cX11_ring 8 = .ok (.iconst 0, 1) := by decide +kernel
theorem dX11_ring_9 : decode cX11_ring 9 = .ok (.istore_n 2, 1) := by decide +kernel
theorem dX11_ring_10 : decode cX11_ring 10 = .ok (.iload_n 2, 1) := by decide +kernel
theorem dX11_ring_11 : decode cX11_ring 11 = .ok (.aload_n 0, 1) := by decide +kernel
theorem dX11_ring_12 : decode cX11_ring 12 = .ok (.getfield 17, 3) := by decide +kernel
theorem dX11_ring_15 : decode cX11_ring 15 = .ok (.if_icmp .ge 100, 3) := by decide +kernel
theorem dX11_ring_18 : decode cX11_ring 18 = .ok (.aload_n 0, 1) := by decide +kernel
theorem dX11_ring_19 : decode cX11_ring 19 = .ok (.getfield 142, 3) := by decide +kernel
theorem dX11_ring_22 : decode cX11_ring 22 = .ok (.iload_n 2, 1) := by decide +kernel
theorem dX11_ring_23 : decode cX11_ring 23 = .ok (.baload, 1) := by decide +kernel
theorem dX11_ring_24 : decode cX11_ring 24 = .ok (.ifCond .eq 6, 3) := by decide +kernel
theorem dX11_ring_27 : decode cX11_ring 27 = .ok (.goto 82, 3) := by decide +kernel
theorem dX11_ring_30 : decode cX11_ring 30 = .ok (.iconst 0, 1) := by decide +kernel
theorem dX11_ring_31 : decode cX11_ring 31 = .ok (.istore_n 3, 1) := by decide +kernel
theorem dX11_ring_32 : decode cX11_ring 32 = .ok (.iconst 0, 1) := by decide +kernel
theorem dX11_ring_33 : decode cX11_ring 33 = .ok (.istore 4, 2) := by decide +kernel
theorem dX11_ring_35 : decode cX11_ring 35 = .ok (.iload 4, 2) := by decide +kernel
theorem dX11_ring_37 : decode cX11_ring 37 = .ok (.aload_n 0, 1) := by decide +kernel
theorem dX11_ring_38 : decode cX11_ring 38 = .ok (.getfield 17, 3) := by decide +kernel
theorem dX11_ring_41 : decode cX11_ring 41 = .ok (.if_icmp .ge 61, 3) := by decide +kernel
theorem dX11_ring_44 : decode cX11_ring 44 = .ok (.iload_n 3, 1) := by decide +kernel
theorem dX11_ring_45 : decode cX11_ring 45 = .ok (.aload_n 0, 1) := by decide +kernel
theorem dX11_ring_46 : decode cX11_ring 46 = .ok (.getfield 142, 3) := by decide +kernel
theorem dX11_ring_49 : decode cX11_ring 49 = .ok (.iload 4, 2) := by decide +kernel
theorem dX11_ring_51 : decode cX11_ring 51 = .ok (.baload, 1) := by decide +kernel
theorem dX11_ring_52 : decode cX11_ring 52 = .ok (.ifCond .ne 41, 3) := by decide +kernel
theorem dX11_ring_55 : decode cX11_ring 55 = .ok (.aload_n 0, 1) := by decide +kernel
theorem dX11_ring_56 : decode cX11_ring 56 = .ok (.iload 4, 2) := by decide +kernel
theorem dX11_ring_58 : decode cX11_ring 58 = .ok (.invokevirtual 341, 3) := by decide +kernel
theorem dX11_ring_61 : decode cX11_ring 61 = .ok (.aload_n 0, 1) := by decide +kernel
theorem dX11_ring_62 : decode cX11_ring 62 = .ok (.iload_n 2, 1) := by decide +kernel
theorem dX11_ring_63 : decode cX11_ring 63 = .ok (.invokevirtual 341, 3) := by decide +kernel
theorem dX11_ring_66 : decode cX11_ring 66 = .ok (.if_icmp .gt 23, 3) := by decide +kernel
theorem dX11_ring_69 : decode cX11_ring 69 = .ok (.aload_n 0, 1) := by decide +kernel
theorem dX11_ring_70 : decode cX11_ring 70 = .ok (.iload 4, 2) := by decide +kernel
theorem dX11_ring_72 : decode cX11_ring 72 = .ok (.invokevirtual 341, 3) := by decide +kernel
theorem dX11_ring_75 : decode cX11_ring 75 = .ok (.aload_n 0, 1) := by decide +kernel
theorem dX11_ring_76 : decode cX11_ring 76 = .ok (.iload_n 2, 1) := by decide +kernel
theorem dX11_ring_77 : decode cX11_ring 77 = .ok (.invokevirtual 341, 3) := by decide +kernel
theorem dX11_ring_80 : decode cX11_ring 80 = .ok (.if_icmp .ne 13, 3) := by decide +kernel
theorem dX11_ring_83 : decode cX11_ring 83 = .ok (.iload 4, 2) := by decide +kernel
theorem dX11_ring_85 : decode cX11_ring 85 = .ok (.iload_n 2, 1) := by decide +kernel
theorem dX11_ring_86 : decode cX11_ring 86 = .ok (.if_icmp .le 7, 3) := by decide +kernel
theorem dX11_ring_89 : decode cX11_ring 89 = .ok (.iconst 1, 1) := by decide +kernel
theorem dX11_ring_90 : decode cX11_ring 90 = .ok (.goto 4, 3) := by decide +kernel
theorem dX11_ring_93 : decode cX11_ring 93 = .ok (.iconst 0, 1) := by decide +kernel
theorem dX11_ring_94 : decode cX11_ring 94 = .ok (.iadd, 1) := by decide +kernel
theorem dX11_ring_95 : decode cX11_ring 95 = .ok (.istore_n 3, 1) := by decide +kernel
theorem dX11_ring_96 : decode cX11_ring 96 = .ok (.iinc 4 1, 3) := by decide +kernel
theorem dX11_ring_99 : decode cX11_ring 99 = .ok (.goto (-64), 3) := by decide +kernel
theorem dX11_ring_102 : decode cX11_ring 102 = .ok (.iload_n 3, 1) := by decide +kernel
theorem dX11_ring_103 : decode cX11_ring 103 = .ok (.iload_n 1, 1) := by decide +kernel
theorem dX11_ring_104 : decode cX11_ring 104 = .ok (.if_icmp .ne 5, 3) := by decide +kernel
theorem dX11_ring_107 : decode cX11_ring 107 = .ok (.iload_n 2, 1) := by decide +kernel
theorem dX11_ring_108 : decode cX11_ring 108 = .ok (.ireturn, 1) := by decide +kernel
theorem dX11_ring_109 : decode cX11_ring 109 = .ok (.iinc 2 1, 3) := by decide +kernel
theorem dX11_ring_112 : decode cX11_ring 112 = .ok (.goto (-102), 3) := by decide +kernel
theorem dX11_ring_115 : decode cX11_ring 115 = .ok (.iconst (-1), 1) := by decide +kernel
theorem dX11_ring_116 : decode cX11_ring 116 = .ok (.ireturn, 1) := by decide +kernel
theorem dX11_since_0 : decode cX11_since 0 = .ok (.aload_n 0, 1) := by decide +kernel
theorem dX11_since_1 : decode cX11_since 1 = .ok (.iload_n 1, 1) := by decide +kernel
theorem dX11_since_2 : decode cX11_since 2 = .ok (.invokevirtual 175, 3) := by decide +kernel
theorem dX11_since_5 : decode cX11_since 5 = .ok (.ifCond .ne 5, 3) := by decide +kernel
theorem dX11_since_8 : decode cX11_since 8 = .ok (.iconst (-1), 1) := by decide +kernel
theorem dX11_since_9 : decode cX11_since 9 = .ok (.ireturn, 1) := by decide +kernel
theorem dX11_since_10 : decode cX11_since 10 = .ok (.aload_n 0, 1) := by decide +kernel
theorem dX11_since_11 : decode cX11_since 11 = .ok (.aload_n 0, 1) := by decide +kernel
theorem dX11_since_12 : decode cX11_since 12 = .ok (.invokevirtual 179, 3) := by decide +kernel
theorem dX11_since_15 : decode cX11_since 15 = .ok (.invokevirtual 335, 3) := by decide +kernel
theorem dX11_since_18 : decode cX11_since 18 = .ok (.aload_n 0, 1) := by decide +kernel
theorem dX11_since_19 : decode cX11_since 19 = .ok (.iload_n 1, 1) := by decide +kernel
theorem dX11_since_20 : decode cX11_since 20 = .ok (.invokevirtual 341, 3) := by decide +kernel
theorem dX11_since_23 : decode cX11_since 23 = .ok (.istore_n 2, 1) := by decide +kernel
theorem dX11_since_24 : decode cX11_since 24 = .ok (.aload_n 0, 1) := by decide +kernel
theorem dX11_since_25 : decode cX11_since 25 = .ok (.invokevirtual 179, 3) := by decide +kernel
theorem dX11_since_28 : decode cX11_since 28 = .ok (.iconst 1, 1) := by decide +kernel
theorem dX11_since_29 : decode cX11_since 29 = .ok (.isub, 1) := by decide +kernel
theorem dX11_since_30 : decode cX11_since 30 = .ok (.istore_n 3, 1) := by decide +kernel
theorem dX11_since_31 : decode cX11_since 31 = .ok (.iload_n 3, 1) := by decide +kernel
theorem dX11_since_32 : decode cX11_since 32 = .ok (.ifCond .lt 25, 3) := by decide +kernel
theorem dX11_since_35 : decode cX11_since 35 = .ok (.aload_n 0, 1) := by decide +kernel
theorem dX11_since_36 : decode cX11_since 36 = .ok (.iload_n 3, 1) := by decide +kernel
theorem dX11_since_37 : decode cX11_since 37 = .ok (.invokevirtual 335, 3) := by decide +kernel
theorem dX11_since_40 : decode cX11_since 40 = .ok (.aload_n 0, 1) := by decide +kernel
theorem dX11_since_41 : decode cX11_since 41 = .ok (.iload_n 1, 1) := by decide +kernel
theorem dX11_since_42 : decode cX11_since 42 = .ok (.invokevirtual 341, 3) := by decide +kernel
theorem dX11_since_45 : decode cX11_since 45 = .ok (.iload_n 2, 1) := by decide +kernel
theorem dX11_since_46 : decode cX11_since 46 = .ok (.if_icmp .eq 5, 3) := by decide +kernel
theorem dX11_since_49 : decode cX11_since 49 = .ok (.iload_n 3, 1) := by decide +kernel
theorem dX11_since_50 : decode cX11_since 50 = .ok (.ireturn, 1) := by decide +kernel
theorem dX11_since_51 : decode cX11_since 51 = .ok (.iinc 3 (-1), 3) := by decide +kernel
theorem dX11_since_54 : decode cX11_since 54 = .ok (.goto (-23), 3) := by decide +kernel
theorem dX11_since_57 : decode cX11_since 57 = .ok (.iconst (-1), 1) := by decide +kernel
theorem dX11_since_58 : decode cX11_since 58 = .ok (.ireturn, 1) := by decide +kernel
theorem dX11_all_0 : decode cX11_all 0 = .ok (.iload_n 1, 1) := by decide +kernel
theorem dX11_all_1 : decode cX11_all 1 = .ok (.tableswitch 69 0 5 #[39, 44, 49, 54, 59, 64], 39) := by decide +kernel
theorem dX11_all_40 : decode cX11_all 40 = .ok (.aload_n 0, 1) := by decide +kernel
theorem dX11_all_41 : decode cX11_all 41 = .ok (.getfield 17, 3) := by decide +kernel
theorem dX11_all_44 : decode cX11_all 44 = .ok (.ireturn, 1) := by decide +kernel
theorem dX11_all_45 : decode cX11_all 45 = .ok (.aload_n 0, 1) := by decide +kernel
theorem dX11_all_46 : decode cX11_all 46 = .ok (.getfield 23, 3) := by decide +kernel
theorem dX11_all_49 : decode cX11_all 49 = .ok (.ireturn, 1) := by decide +kernel
theorem dX11_all_50 : decode cX11_all 50 = .ok (.aload_n 0, 1) := by decide +kernel
theorem dX11_all_51 : decode cX11_all 51 = .ok (.getfield 41, 3) := by decide +kernel
theorem dX11_all_54 : decode cX11_all 54 = .ok (.ireturn, 1) := by decide +kernel
theorem dX11_all_55 : decode cX11_all 55 = .ok (.aload_n 0, 1) := by decide +kernel
theorem dX11_all_56 : decode cX11_all 56 = .ok (.invokevirtual 153, 3) := by decide +kernel
theorem dX11_all_59 : decode cX11_all 59 = .ok (.ireturn, 1) := by decide +kernel
theorem dX11_all_60 : decode cX11_all 60 = .ok (.aload_n 0, 1) := by decide +kernel
theorem dX11_all_61 : decode cX11_all 61 = .ok (.getfield 71, 3) := by decide +kernel
theorem dX11_all_64 : decode cX11_all 64 = .ok (.ireturn, 1) := by decide +kernel
theorem dX11_all_65 : decode cX11_all 65 = .ok (.aload_n 0, 1) := by decide +kernel
theorem dX11_all_66 : decode cX11_all 66 = .ok (.invokevirtual 179, 3) := by decide +kernel
theorem dX11_all_69 : decode cX11_all 69 = .ok (.ireturn, 1) := by decide +kernel
theorem dX11_all_70 : decode cX11_all 70 = .ok (.iconst (-1), 1) := by decide +kernel
theorem dX11_all_71 : decode cX11_all 71 = .ok (.ireturn, 1) := by decide +kernel
theorem dJ9_floorDiv_f86c9_0 : decode cJ9_floorDiv_f86c9 0 = .ok (.lload_n 0, 1) := by decide +kernel
theorem dJ9_floorDiv_f86c9_1 : decode cJ9_floorDiv_f86c9 1 = .ok (.lload_n 2, 1) := by decide +kernel
theorem dJ9_floorDiv_f86c9_2 : decode cJ9_floorDiv_f86c9 2 = .ok (.ldiv, 1) := by decide +kernel
theorem dJ9_floorDiv_f86c9_3 : decode cJ9_floorDiv_f86c9 3 = .ok (.lstore 4, 2) := by decide +kernel
theorem dJ9_floorDiv_f86c9_5 : decode cJ9_floorDiv_f86c9 5 = .ok (.lload_n 0, 1) := by decide +kernel
theorem dJ9_floorDiv_f86c9_6 : decode cJ9_floorDiv_f86c9 6 = .ok (.lload_n 2, 1) := by decide +kernel
theorem dJ9_floorDiv_f86c9_7 : decode cJ9_floorDiv_f86c9 7 = .ok (.lxor, 1) := by decide +kernel
theorem dJ9_floorDiv_f86c9_8 : decode cJ9_floorDiv_f86c9 8 = .ok (.lconst 0, 1) := by decide +kernel
theorem dJ9_floorDiv_f86c9_9 : decode cJ9_floorDiv_f86c9 9 = .ok (.lcmp, 1) := by decide +kernel
theorem dJ9_floorDiv_f86c9_10 : decode cJ9_floorDiv_f86c9 10 = .ok (.ifCond .ge 17, 3) := by decide +kernel
theorem dJ9_floorDiv_f86c9_13 : decode cJ9_floorDiv_f86c9 13 = .ok (.lload 4, 2) := by decide +kernel
theorem dJ9_floorDiv_f86c9_15 : decode cJ9_floorDiv_f86c9 15 = .ok (.lload_n 2, 1) := by decide +kernel
theorem dJ9_floorDiv_f86c9_16 : decode cJ9_floorDiv_f86c9 16 = .ok (.lmul, 1) := by decide +kernel
theorem dJ9_floorDiv_f86c9_17 : decode cJ9_floorDiv_f86c9 17 = .ok (.lload_n 0, 1) := by decide +kernel
theorem dJ9_floorDiv_f86c9_18 : decode cJ9_floorDiv_f86c9 18 = .ok (.lcmp, 1) := by decide +kernel
theorem dJ9_floorDiv_f86c9_19 : decode cJ9_floorDiv_f86c9 19 = .ok (.ifCond .eq 8, 3) := by decide +kernel
theorem dJ9_floorDiv_f86c9_22 : decode cJ9_floorDiv_f86c9 22 = .ok (.lload 4, 2) := by decide +kernel
theorem dJ9_floorDiv_f86c9_24 : decode cJ9_floorDiv_f86c9 24 = .ok (.lconst 1, 1) := by decide +kernel
theorem dJ9_floorDiv_f86c9_25 : decode cJ9_floorDiv_f86c9 25 = .ok (.lsub, 1) := by decide +kernel
theorem dJ9_floorDiv_f86c9_26 : decode cJ9_floorDiv_f86c9 26 = .ok (.lreturn, 1) := by decide +kernel
theorem dJ9_floorDiv_f86c9_27 : decode cJ9_floorDiv_f86c9 27 = .ok (.lload 4, 2) := by decide +kernel
theorem dJ9_floorDiv_f86c9_29 : decode cJ9_floorDiv_f86c9 29 = .ok (.lreturn, 1) := by decide +kernel
theorem dJ9_abs_067f4_0 : decode cJ9_abs_067f4 0 = .ok (.lload_n 0, 1) := by decide +kernel
theorem dJ9_abs_067f4_1 : decode cJ9_abs_067f4 1 = .ok (.lconst 0, 1) := by decide +kernel
theorem dJ9_abs_067f4_2 : decode cJ9_abs_067f4 2 = .ok (.lcmp, 1) := by decide +kernel
theorem dJ9_abs_067f4_3 : decode cJ9_abs_067f4 3 = .ok (.ifCond .ge 8, 3) := by decide +kernel
theorem dJ9_abs_067f4_6 : decode cJ9_abs_067f4 6 = .ok (.lload_n 0, 1) := by decide +kernel
theorem dJ9_abs_067f4_7 : decode cJ9_abs_067f4 7 = .ok (.lneg, 1) := by decide +kernel
theorem dJ9_abs_067f4_8 : decode cJ9_abs_067f4 8 = .ok (.goto 4, 3) := by decide +kernel
theorem dJ9_abs_067f4_11 : decode cJ9_abs_067f4 11 = .ok (.lload_n 0, 1) := by decide +kernel
theorem dJ9_abs_067f4_12 : decode cJ9_abs_067f4 12 = .ok (.lreturn, 1) := by decide +kernel
theorem dJ9_max_7cf53_0 : decode cJ9_max_7cf53 0 = .ok (.iload_n 0, 1) := by decide +kernel
theorem dJ9_max_7cf53_1 : decode cJ9_max_7cf53 1 = .ok (.iload_n 1, 1) := by decide +kernel
theorem dJ9_max_7cf53_2 : decode cJ9_max_7cf53 2 = .ok (.if_icmp .lt 7, 3) := by decide +kernel
theorem dJ9_max_7cf53_5 : decode cJ9_max_7cf53 5 = .ok (.iload_n 0, 1) := by decide +kernel
theorem dJ9_max_7cf53_6 : decode cJ9_max_7cf53 6 = .ok (.goto 4, 3) := by decide +kernel
theorem dJ9_max_7cf53_9 : decode cJ9_max_7cf53 9 = .ok (.iload_n 1, 1) := by decide +kernel
theorem dJ9_max_7cf53_10 : decode cJ9_max_7cf53 10 = .ok (.ireturn, 1) := by decide +kernel
theorem dJ9_max_f86c9_0 : decode cJ9_max_f86c9 0 = .ok (.lload_n 0, 1) := by decide +kernel
theorem dJ9_max_f86c9_1 : decode cJ9_max_f86c9 1 = .ok (.lload_n 2, 1) := by decide +kernel
theorem dJ9_max_f86c9_2 : decode cJ9_max_f86c9 2 = .ok (.lcmp, 1) := by decide +kernel
theorem dJ9_max_f86c9_3 : decode cJ9_max_f86c9 3 = .ok (.ifCond .lt 7, 3) := by decide +kernel
theorem dJ9_max_f86c9_6 : decode cJ9_max_f86c9 6 = .ok (.lload_n 0, 1) := by decide +kernel
theorem dJ9_max_f86c9_7 : decode cJ9_max_f86c9 7 = .ok (.goto 4, 3) := by decide +kernel
theorem dJ9_max_f86c9_10 : decode cJ9_max_f86c9 10 = .ok (.lload_n 2, 1) := by decide +kernel
theorem dJ9_max_f86c9_11 : decode cJ9_max_f86c9 11 = .ok (.lreturn, 1) := by decide +kernel
theorem dJ9_min_7cf53_0 : decode cJ9_min_7cf53 0 = .ok (.iload_n 0, 1) := by decide +kernel
theorem dJ9_min_7cf53_1 : decode cJ9_min_7cf53 1 = .ok (.iload_n 1, 1) := by decide +kernel
theorem dJ9_min_7cf53_2 : decode cJ9_min_7cf53 2 = .ok (.if_icmp .gt 7, 3) := by decide +kernel
theorem dJ9_min_7cf53_5 : decode cJ9_min_7cf53 5 = .ok (.iload_n 0, 1) := by decide +kernel
theorem dJ9_min_7cf53_6 : decode cJ9_min_7cf53 6 = .ok (.goto 4, 3) := by decide +kernel
theorem dJ9_min_7cf53_9 : decode cJ9_min_7cf53 9 = .ok (.iload_n 1, 1) := by decide +kernel
theorem dJ9_min_7cf53_10 : decode cJ9_min_7cf53 10 = .ok (.ireturn, 1) := by decide +kernel
theorem dJ9_min_f86c9_0 : decode cJ9_min_f86c9 0 = .ok (.lload_n 0, 1) := by decide +kernel
theorem dJ9_min_f86c9_1 : decode cJ9_min_f86c9 1 = .ok (.lload_n 2, 1) := by decide +kernel
theorem dJ9_min_f86c9_2 : decode cJ9_min_f86c9 2 = .ok (.lcmp, 1) := by decide +kernel
theorem dJ9_min_f86c9_3 : decode cJ9_min_f86c9 3 = .ok (.ifCond .gt 7, 3) := by decide +kernel
theorem dJ9_min_f86c9_6 : decode cJ9_min_f86c9 6 = .ok (.lload_n 0, 1) := by decide +kernel
theorem dJ9_min_f86c9_7 : decode cJ9_min_f86c9 7 = .ok (.goto 4, 3) := by decide +kernel
theorem dJ9_min_f86c9_10 : decode cJ9_min_f86c9 10 = .ok (.lload_n 2, 1) := by decide +kernel
theorem dJ9_min_f86c9_11 : decode cJ9_min_f86c9 11 = .ok (.lreturn, 1) := by decide +kernel
theorem dJ0_length_8abf5_0 : decode cJ0_length_8abf5 0 = .ok (.aload_n 0, 1) := by decide +kernel
theorem dJ0_length_8abf5_1 : decode cJ0_length_8abf5 1 = .ok (.getfield 9, 3) := by decide +kernel
theorem dJ0_length_8abf5_4 : decode cJ0_length_8abf5 4 = .ok (.arraylength, 1) := by decide +kernel
theorem dJ0_length_8abf5_5 : decode cJ0_length_8abf5 5 = .ok (.aload_n 0, 1) := by decide +kernel
theorem dJ0_length_8abf5_6 : decode cJ0_length_8abf5 6 = .ok (.invokevirtual 335, 3) := by decide +kernel
theorem dJ0_length_8abf5_9 : decode cJ0_length_8abf5 9 = .ok (.ishr, 1) := by decide +kernel
theorem dJ0_length_8abf5_10 : decode cJ0_length_8abf5 10 = .ok (.ireturn, 1) := by decide +kernel
theorem dJ0_charAt_5068e_0 : decode cJ0_charAt_5068e 0 = .ok (.aload_n 0, 1) := by decide +kernel
theorem dJ0_charAt_5068e_1 : decode cJ0_charAt_5068e 1 = .ok (.invokevirtual 492, 3) := by decide +kernel
theorem dJ0_charAt_5068e_4 : decode cJ0_charAt_5068e 4 = .ok (.ifCond .eq 12, 3) := by decide +kernel
theorem dJ0_charAt_5068e_7 : decode cJ0_charAt_5068e 7 = .ok (.aload_n 0, 1) := by decide +kernel
theorem dJ0_charAt_5068e_8 : decode cJ0_charAt_5068e 8 = .ok (.getfield 9, 3) := by decide +kernel
theorem dJ0_charAt_5068e_11 : decode cJ0_charAt_5068e 11 = .ok (.iload_n 1, 1) := by decide +kernel
theorem dJ0_charAt_5068e_12 : decode cJ0_charAt_5068e 12 = .ok (.invokestatic 495, 3) := by decide +kernel
theorem dJ0_charAt_5068e_15 : decode cJ0_charAt_5068e 15 = .ok (.ireturn, 1) := by decide +kernel
theorem dJ0_charAt_5068e_16 : decode cJ0_charAt_5068e 16 = .ok (.aload_n 0, 1) := by decide +kernel
theorem dJ0_charAt_5068e_17 : decode cJ0_charAt_5068e 17 = .ok (.getfield 9, 3) := by decide +kernel
theorem dJ0_charAt_5068e_20 : decode cJ0_charAt_5068e 20 = .ok (.iload_n 1, 1) := by decide +kernel
theorem dJ0_charAt_5068e_21 : decode cJ0_charAt_5068e 21 = .ok (.invokestatic 498, 3) := by decide +kernel
theorem dJ0_charAt_5068e_24 : decode cJ0_charAt_5068e 24 = .ok (.ireturn, 1) := by decide +kernel
theorem dJ0_coder_7d493_0 : decode cJ0_coder_7d493 0 = .ok (.getstatic 38, 3) := by decide +kernel
theorem dJ0_coder_7d493_3 : decode cJ0_coder_7d493 3 = .ok (.ifCond .eq 10, 3) := by decide +kernel
theorem dJ0_coder_7d493_6 : decode cJ0_coder_7d493 6 = .ok (.aload_n 0, 1) := by decide +kernel
theorem dJ0_coder_7d493_7 : decode cJ0_coder_7d493 7 = .ok (.getfield 15, 3) := by decide +kernel
theorem dJ0_coder_7d493_10 : decode cJ0_coder_7d493 10 = .ok (.goto 4, 3) := by decide +kernel
theorem dJ0_coder_7d493_13 : decode cJ0_coder_7d493 13 = .ok (.iconst 1, 1) := by decide +kernel
theorem dJ0_coder_7d493_14 : decode cJ0_coder_7d493 14 = .ok (.ireturn, 1) := by decide +kernel
theorem dJ0_isLatin1_aae02_0 : decode cJ0_isLatin1_aae02 0 = .ok (.getstatic 38, 3) := by decide +kernel
theorem dJ0_isLatin1_aae02_3 : decode cJ0_isLatin1_aae02 3 = .ok (.ifCond .eq 14, 3) := by decide +kernel
theorem dJ0_isLatin1_aae02_6 : decode cJ0_isLatin1_aae02 6 = .ok (.aload_n 0, 1) := by decide +kernel
theorem dJ0_isLatin1_aae02_7 : decode cJ0_isLatin1_aae02 7 = .ok (.getfield 15, 3) := by decide +kernel
theorem dJ0_isLatin1_aae02_10 : decode cJ0_isLatin1_aae02 10 = .ok (.ifCond .ne 7, 3) := by decide +kernel
theorem dJ0_isLatin1_aae02_13 : decode cJ0_isLatin1_aae02 13 = .ok (.iconst 1, 1) := by decide +kernel
theorem dJ0_isLatin1_aae02_14 : decode cJ0_isLatin1_aae02 14 = .ok (.goto 4, 3) := by decide +kernel
theorem dJ0_isLatin1_aae02_17 : decode cJ0_isLatin1_aae02 17 = .ok (.iconst 0, 1) := by decide +kernel
theorem dJ0_isLatin1_aae02_18 : decode cJ0_isLatin1_aae02 18 = .ok (.ireturn, 1) := by decide +kernel
theorem dJ0_checkIndex_df160_0 : decode cJ0_checkIndex_df160 0 = .ok (.iload_n 0, 1) := by decide +kernel
theorem dJ0_checkIndex_df160_1 : decode cJ0_checkIndex_df160 1 = .ok (.iload_n 1, 1) := by decide +kernel
theorem dJ0_checkIndex_df160_2 : decode cJ0_checkIndex_df160 2 = .ok (.getstatic 1053, 3) := by decide +kernel
theorem dJ0_checkIndex_df160_5 : decode cJ0_checkIndex_df160 5 = .ok (.invokestatic 1059, 3) := by decide +kernel
theorem dJ0_checkIndex_df160_8 : decode cJ0_checkIndex_df160 8 = .ok (.pop, 1) := by decide +kernel
theorem dJ0_checkIndex_df160_9 : decode cJ0_checkIndex_df160 9 = .ok (.return_, 1) := by decide +kernel
theorem dJ1_charAt_3b067_0 : decode cJ1_charAt_3b067 0 = .ok (.iload_n 1, 1) := by decide +kernel
theorem dJ1_charAt_3b067_1 : decode cJ1_charAt_3b067 1 = .ok (.aload_n 0, 1) := by decide +kernel
theorem dJ1_charAt_3b067_2 : decode cJ1_charAt_3b067 2 = .ok (.arraylength, 1) := by decide +kernel
theorem dJ1_charAt_3b067_3 : decode cJ1_charAt_3b067 3 = .ok (.invokestatic 9, 3) := by decide +kernel
theorem dJ1_charAt_3b067_6 : decode cJ1_charAt_3b067 6 = .ok (.aload_n 0, 1) := by decide +kernel
theorem dJ1_charAt_3b067_7 : decode cJ1_charAt_3b067 7 = .ok (.iload_n 1, 1) := by decide +kernel
theorem dJ1_charAt_3b067_8 : decode cJ1_charAt_3b067 8 = .ok (.baload, 1) := by decide +kernel
theorem dJ1_charAt_3b067_9 : decode cJ1_charAt_3b067 9 = .ok (.sipush 255, 3) := by decide +kernel
theorem dJ1_charAt_3b067_12 : decode cJ1_charAt_3b067 12 = .ok (.iand, 1) := by decide +kernel
theorem dJ1_charAt_3b067_13 : decode cJ1_charAt_3b067 13 = .ok (.i2c, 1) := by decide +kernel
theorem dJ1_charAt_3b067_14 : decode cJ1_charAt_3b067 14 = .ok (.ireturn, 1) := by decide +kernel
theorem dJ2_getChar_3b067_0 : decode cJ2_getChar_3b067 0 = .ok (.getstatic 44, 3) := by decide +kernel
theorem dJ2_getChar_3b067_3 : decode cJ2_getChar_3b067 3 = .ok (.ifCond .ne 25, 3) := by decide +kernel
theorem dJ2_getChar_3b067_6 : decode cJ2_getChar_3b067 6 = .ok (.iload_n 1, 1) := by decide +kernel
theorem dJ2_getChar_3b067_7 : decode cJ2_getChar_3b067 7 = .ok (.ifCond .lt 11, 3) := by decide +kernel
theorem dJ2_getChar_3b067_10 : decode cJ2_getChar_3b067 10 = .ok (.iload_n 1, 1) := by decide +kernel
theorem dJ2_getChar_3b067_11 : decode cJ2_getChar_3b067 11 = .ok (.aload_n 0, 1) := by decide +kernel
theorem dJ2_getChar_3b067_12 : decode cJ2_getChar_3b067 12 = .ok (.invokestatic 48, 3) := by decide +kernel
theorem dJ2_getChar_3b067_15 : decode cJ2_getChar_3b067 15 = .ok (.if_icmp .lt 13, 3) := by decide +kernel
theorem dJ2_getChar_3b067_18 : decode cJ2_getChar_3b067 18 = .ok (.new 52, 3) := by decide +kernel
theorem dJ2_getChar_3b067_21 : decode cJ2_getChar_3b067 21 = .ok (.dup, 1) := by decide +kernel
theorem dJ2_getChar_3b067_22 : decode cJ2_getChar_3b067 22 = .ok (.ldc 54, 2) := by decide +kernel
theorem dJ2_getChar_3b067_24 : decode cJ2_getChar_3b067 24 = .ok (.invokespecial 56, 3) := by decide +kernel
theorem dJ2_getChar_3b067_27 : decode cJ2_getChar_3b067 27 = .ok (.athrow, 1) := by decide +kernel
theorem dJ2_getChar_3b067_28 : decode cJ2_getChar_3b067 28 = .ok (.iload_n 1, 1) := by decide +kernel
theorem dJ2_getChar_3b067_29 : decode cJ2_getChar_3b067 29 = .ok (.iconst 1, 1) := by decide +kernel
theorem dJ2_getChar_3b067_30 : decode cJ2_getChar_3b067 30 = .ok (.ishl, 1) := by decide +kernel
theorem dJ2_getChar_3b067_31 : decode cJ2_getChar_3b067 31 = .ok (.istore_n 1, 1) := by decide +kernel
theorem dJ2_getChar_3b067_32 : decode cJ2_getChar_3b067 32 = .ok (.aload_n 0, 1) := by decide +kernel
theorem dJ2_getChar_3b067_33 : decode cJ2_getChar_3b067 33 = .ok (.iload_n 1, 1) := by decide +kernel
theorem dJ2_getChar_3b067_34 : decode cJ2_getChar_3b067 34 = .ok (.iinc 1 1, 3) := by decide +kernel
theorem dJ2_getChar_3b067_37 : decode cJ2_getChar_3b067 37 = .ok (.baload, 1) := by decide +kernel
theorem dJ2_getChar_3b067_38 : decode cJ2_getChar_3b067 38 = .ok (.sipush 255, 3) := by decide +kernel
theorem dJ2_getChar_3b067_41 : decode cJ2_getChar_3b067 41 = .ok (.iand, 1) := by decide +kernel
theorem dJ2_getChar_3b067_42 : decode cJ2_getChar_3b067 42 = .ok (.getstatic 59, 3) := by decide +kernel
theorem dJ2_getChar_3b067_45 : decode cJ2_getChar_3b067 45 = .ok (.ishl, 1) := by decide +kernel
theorem dJ2_getChar_3b067_46 : decode cJ2_getChar_3b067 46 = .ok (.aload_n 0, 1) := by decide +kernel
theorem dJ2_getChar_3b067_47 : decode cJ2_getChar_3b067 47 = .ok (.iload_n 1, 1) := by decide +kernel
theorem dJ2_getChar_3b067_48 : decode cJ2_getChar_3b067 48 = .ok (.baload, 1) := by decide +kernel
theorem dJ2_getChar_3b067_49 : decode cJ2_getChar_3b067 49 = .ok (.sipush 255, 3) := by decide +kernel
theorem dJ2_getChar_3b067_52 : decode cJ2_getChar_3b067 52 = .ok (.iand, 1) := by decide +kernel
theorem dJ2_getChar_3b067_53 : decode cJ2_getChar_3b067 53 = .ok (.getstatic 63, 3) := by decide +kernel
theorem dJ2_getChar_3b067_56 : decode cJ2_getChar_3b067 56 = .ok (.ishl, 1) := by decide +kernel
theorem dJ2_getChar_3b067_57 : decode cJ2_getChar_3b067 57 = .ok (.ior, 1) := by decide +kernel
theorem dJ2_getChar_3b067_58 : decode cJ2_getChar_3b067 58 = .ok (.i2c, 1) := by decide +kernel
theorem dJ2_getChar_3b067_59 : decode cJ2_getChar_3b067 59 = .ok (.ireturn, 1) := by decide +kernel
theorem dJ2_length_9d52b_0 : decode cJ2_length_9d52b 0 = .ok (.aload_n 0, 1) := by decide +kernel
theorem dJ2_length_9d52b_1 : decode cJ2_length_9d52b 1 = .ok (.arraylength, 1) := by decide +kernel
theorem dJ2_length_9d52b_2 : decode cJ2_length_9d52b 2 = .ok (.iconst 1, 1) := by decide +kernel
theorem dJ2_length_9d52b_3 : decode cJ2_length_9d52b 3 = .ok (.ishr, 1) := by decide +kernel
theorem dJ2_length_9d52b_4 : decode cJ2_length_9d52b 4 = .ok (.ireturn, 1) := by decide +kernel
theorem dJ2_charAt_3b067_0 : decode cJ2_charAt_3b067 0 = .ok (.iload_n 1, 1) := by decide +kernel
theorem dJ2_charAt_3b067_1 : decode cJ2_charAt_3b067 1 = .ok (.aload_n 0, 1) := by decide +kernel
theorem dJ2_charAt_3b067_2 : decode cJ2_charAt_3b067 2 = .ok (.invokestatic 67, 3) := by decide +kernel
theorem dJ2_charAt_3b067_5 : decode cJ2_charAt_3b067 5 = .ok (.aload_n 0, 1) := by decide +kernel
theorem dJ2_charAt_3b067_6 : decode cJ2_charAt_3b067 6 = .ok (.iload_n 1, 1) := by decide +kernel
theorem dJ2_charAt_3b067_7 : decode cJ2_charAt_3b067 7 = .ok (.invokestatic 71, 3) := by decide +kernel
theorem dJ2_charAt_3b067_10 : decode cJ2_charAt_3b067 10 = .ok (.ireturn, 1) := by decide +kernel
theorem dJ2_checkIndex_2214a_0 : decode cJ2_checkIndex_2214a 0 = .ok (.iload_n 0, 1) := by decide +kernel
theorem dJ2_checkIndex_2214a_1 : decode cJ2_checkIndex_2214a 1 = .ok (.aload_n 1, 1) := by decide +kernel
theorem dJ2_checkIndex_2214a_2 : decode cJ2_checkIndex_2214a 2 = .ok (.invokestatic 48, 3) := by decide +kernel
theorem dJ2_checkIndex_2214a_5 : decode cJ2_checkIndex_2214a 5 = .ok (.invokestatic 414, 3) := by decide +kernel
theorem dJ2_checkIndex_2214a_8 : decode cJ2_checkIndex_2214a 8 = .ok (.return_, 1) := by decide +kernel
theorem dJ3_checkIndex_8e157_0 : decode cJ3_checkIndex_8e157 0 = .ok (.iload_n 0, 1) := by decide +kernel
theorem dJ3_checkIndex_8e157_1 : decode cJ3_checkIndex_8e157 1 = .ok (.ifCond .lt 8, 3) := by decide +kernel
theorem dJ3_checkIndex_8e157_4 : decode cJ3_checkIndex_8e157 4 = .ok (.iload_n 0, 1) := by decide +kernel
theorem dJ3_checkIndex_8e157_5 : decode cJ3_checkIndex_8e157 5 = .ok (.iload_n 1, 1) := by decide +kernel
theorem dJ3_checkIndex_8e157_6 : decode cJ3_checkIndex_8e157 6 = .ok (.if_icmp .lt 10, 3) := by decide +kernel
theorem dJ3_checkIndex_8e157_9 : decode cJ3_checkIndex_8e157 9 = .ok (.aload_n 2, 1) := by decide +kernel
theorem dJ3_checkIndex_8e157_10 : decode cJ3_checkIndex_8e157 10 = .ok (.iload_n 0, 1) := by decide +kernel
theorem dJ3_checkIndex_8e157_11 : decode cJ3_checkIndex_8e157 11 = .ok (.iload_n 1, 1) := by decide +kernel
theorem dJ3_checkIndex_8e157_12 : decode cJ3_checkIndex_8e157 12 = .ok (.invokestatic 95, 3) := by decide +kernel
theorem dJ3_checkIndex_8e157_15 : decode cJ3_checkIndex_8e157 15 = .ok (.athrow, 1) := by decide +kernel
theorem dJ3_checkIndex_8e157_16 : decode cJ3_checkIndex_8e157 16 = .ok (.iload_n 0, 1) := by decide +kernel
theorem dJ3_checkIndex_8e157_17 : decode cJ3_checkIndex_8e157 17 = .ok (.ireturn, 1) := by decide +kernel
theorem dL_law_0 : decode cL_law 0 = .ok (.new 7, 3) := by decide +kernel
theorem dL_law_3 : decode cL_law 3 = .ok (.dup, 1) := by decide +kernel
theorem dL_law_4 : decode cL_law 4 = .ok (.invokespecial 9, 3) := by decide +kernel
theorem dL_law_7 : decode cL_law 7 = .ok (.astore_n 1, 1) := by decide +kernel
theorem dL_law_8 : decode cL_law 8 = .ok (.new 10, 3) := by decide +kernel
theorem dL_law_11 : decode cL_law 11 = .ok (.dup, 1) := by decide +kernel
theorem dL_law_12 : decode cL_law 12 = .ok (.invokespecial 12, 3) := by decide +kernel
theorem dL_law_15 : decode cL_law 15 = .ok (.astore_n 2, 1) := by decide +kernel
theorem dL_law_16 : decode cL_law 16 = .ok (.iconst 0, 1) := by decide +kernel
theorem dL_law_17 : decode cL_law 17 = .ok (.istore_n 3, 1) := by decide +kernel
theorem dL_law_18 : decode cL_law 18 = .ok (.iload_n 3, 1) := by decide +kernel
theorem dL_law_19 : decode cL_law 19 = .ok (.aload_n 0, 1) := by decide +kernel
theorem dL_law_20 : decode cL_law 20 = .ok (.arraylength, 1) := by decide +kernel
theorem dL_law_21 : decode cL_law 21 = .ok (.bipush 6, 2) := by decide +kernel
theorem dL_law_23 : decode cL_law 23 = .ok (.isub, 1) := by decide +kernel
theorem dL_law_24 : decode cL_law 24 = .ok (.if_icmp .gt 784, 3) := by decide +kernel
theorem dL_law_27 : decode cL_law 27 = .ok (.aload_n 0, 1) := by decide +kernel
theorem dL_law_28 : decode cL_law 28 = .ok (.iload_n 3, 1) := by decide +kernel
theorem dL_law_29 : decode cL_law 29 = .ok (.iaload, 1) := by decide +kernel
theorem dL_law_30 : decode cL_law 30 = .ok (.bipush 31, 2) := by decide +kernel
theorem dL_law_32 : decode cL_law 32 = .ok (.iand, 1) := by decide +kernel
theorem dL_law_33 : decode cL_law 33 = .ok (.tableswitch 769 0 22 #[107, 170, 193, 216, 239, 272, 305, 338, 401, 424, 447, 460, 483, 516, 550, 574, 597, 630, 653, 677, 700, 723, 746], 107) := by decide +kernel
theorem dL_law_140 : decode cL_law 140 = .ok (.aload_n 1, 1) := by decide +kernel
theorem dL_law_141 : decode cL_law 141 = .ok (.aload_n 0, 1) := by decide +kernel
theorem dL_law_142 : decode cL_law 142 = .ok (.iload_n 3, 1) := by decide +kernel
theorem dL_law_143 : decode cL_law 143 = .ok (.iconst 1, 1) := by decide +kernel
theorem dL_law_144 : decode cL_law 144 = .ok (.iadd, 1) := by decide +kernel
theorem dL_law_145 : decode cL_law 145 = .ok (.iaload, 1) := by decide +kernel
theorem dL_law_146 : decode cL_law 146 = .ok (.aload_n 0, 1) := by decide +kernel
theorem dL_law_147 : decode cL_law 147 = .ok (.iload_n 3, 1) := by decide +kernel
theorem dL_law_148 : decode cL_law 148 = .ok (.iconst 2, 1) := by decide +kernel
theorem dL_law_149 : decode cL_law 149 = .ok (.iadd, 1) := by decide +kernel
theorem dL_law_150 : decode cL_law 150 = .ok (.iaload, 1) := by decide +kernel
theorem dL_law_151 : decode cL_law 151 = .ok (.aload_n 0, 1) := by decide +kernel
theorem dL_law_152 : decode cL_law 152 = .ok (.iload_n 3, 1) := by decide +kernel
theorem dL_law_153 : decode cL_law 153 = .ok (.iconst 3, 1) := by decide +kernel
theorem dL_law_154 : decode cL_law 154 = .ok (.iadd, 1) := by decide +kernel
theorem dL_law_155 : decode cL_law 155 = .ok (.iaload, 1) := by decide +kernel
theorem dL_law_156 : decode cL_law 156 = .ok (.aload_n 0, 1) := by decide +kernel
theorem dL_law_157 : decode cL_law 157 = .ok (.iload_n 3, 1) := by decide +kernel
theorem dL_law_158 : decode cL_law 158 = .ok (.iconst 4, 1) := by decide +kernel
theorem dL_law_159 : decode cL_law 159 = .ok (.iadd, 1) := by decide +kernel
theorem dL_law_160 : decode cL_law 160 = .ok (.iaload, 1) := by decide +kernel
theorem dL_law_161 : decode cL_law 161 = .ok (.aload_n 0, 1) := by decide +kernel
theorem dL_law_162 : decode cL_law 162 = .ok (.iload_n 3, 1) := by decide +kernel
theorem dL_law_163 : decode cL_law 163 = .ok (.iconst 5, 1) := by decide +kernel
theorem dL_law_164 : decode cL_law 164 = .ok (.iadd, 1) := by decide +kernel
theorem dL_law_165 : decode cL_law 165 = .ok (.iaload, 1) := by decide +kernel
theorem dL_law_166 : decode cL_law 166 = .ok (.invokevirtual 13, 3) := by decide +kernel
theorem dL_law_169 : decode cL_law 169 = .ok (.aload_n 2, 1) := by decide +kernel
theorem dL_law_170 : decode cL_law 170 = .ok (.aload_n 0, 1) := by decide +kernel
theorem dL_law_171 : decode cL_law 171 = .ok (.iload_n 3, 1) := by decide +kernel
theorem dL_law_172 : decode cL_law 172 = .ok (.iconst 1, 1) := by decide +kernel
theorem dL_law_173 : decode cL_law 173 = .ok (.iadd, 1) := by decide +kernel
theorem dL_law_174 : decode cL_law 174 = .ok (.iaload, 1) := by decide +kernel
theorem dL_law_175 : decode cL_law 175 = .ok (.aload_n 0, 1) := by decide +kernel
theorem dL_law_176 : decode cL_law 176 = .ok (.iload_n 3, 1) := by decide +kernel
theorem dL_law_177 : decode cL_law 177 = .ok (.iconst 2, 1) := by decide +kernel
theorem dL_law_178 : decode cL_law 178 = .ok (.iadd, 1) := by decide +kernel
theorem dL_law_179 : decode cL_law 179 = .ok (.iaload, 1) := by decide +kernel
theorem dL_law_180 : decode cL_law 180 = .ok (.aload_n 0, 1) := by decide +kernel
theorem dL_law_181 : decode cL_law 181 = .ok (.iload_n 3, 1) := by decide +kernel
theorem dL_law_182 : decode cL_law 182 = .ok (.iconst 3, 1) := by decide +kernel
theorem dL_law_183 : decode cL_law 183 = .ok (.iadd, 1) := by decide +kernel
theorem dL_law_184 : decode cL_law 184 = .ok (.iaload, 1) := by decide +kernel
theorem dL_law_185 : decode cL_law 185 = .ok (.aload_n 0, 1) := by decide +kernel
theorem dL_law_186 : decode cL_law 186 = .ok (.iload_n 3, 1) := by decide +kernel
theorem dL_law_187 : decode cL_law 187 = .ok (.iconst 4, 1) := by decide +kernel
theorem dL_law_188 : decode cL_law 188 = .ok (.iadd, 1) := by decide +kernel
theorem dL_law_189 : decode cL_law 189 = .ok (.iaload, 1) := by decide +kernel
theorem dL_law_190 : decode cL_law 190 = .ok (.aload_n 0, 1) := by decide +kernel
theorem dL_law_191 : decode cL_law 191 = .ok (.iload_n 3, 1) := by decide +kernel
theorem dL_law_192 : decode cL_law 192 = .ok (.iconst 5, 1) := by decide +kernel
theorem dL_law_193 : decode cL_law 193 = .ok (.iadd, 1) := by decide +kernel
theorem dL_law_194 : decode cL_law 194 = .ok (.iaload, 1) := by decide +kernel
theorem dL_law_195 : decode cL_law 195 = .ok (.invokevirtual 17, 3) := by decide +kernel
theorem dL_law_198 : decode cL_law 198 = .ok (.if_icmp .eq 604, 3) := by decide +kernel
theorem dL_law_201 : decode cL_law 201 = .ok (.iconst 0, 1) := by decide +kernel
theorem dL_law_202 : decode cL_law 202 = .ok (.ireturn, 1) := by decide +kernel
theorem dL_law_203 : decode cL_law 203 = .ok (.aload_n 1, 1) := by decide +kernel
theorem dL_law_204 : decode cL_law 204 = .ok (.aload_n 0, 1) := by decide +kernel
theorem dL_law_205 : decode cL_law 205 = .ok (.iload_n 3, 1) := by decide +kernel
theorem dL_law_206 : decode cL_law 206 = .ok (.iconst 1, 1) := by decide +kernel
theorem dL_law_207 : decode cL_law 207 = .ok (.iadd, 1) := by decide +kernel
theorem dL_law_208 : decode cL_law 208 = .ok (.iaload, 1) := by decide +kernel
theorem dL_law_209 : decode cL_law 209 = .ok (.invokevirtual 18, 3) := by decide +kernel
theorem dL_law_212 : decode cL_law 212 = .ok (.aload_n 2, 1) := by decide +kernel
theorem dL_law_213 : decode cL_law 213 = .ok (.aload_n 0, 1) := by decide +kernel
theorem dL_law_214 : decode cL_law 214 = .ok (.iload_n 3, 1) := by decide +kernel
theorem dL_law_215 : decode cL_law 215 = .ok (.iconst 1, 1) := by decide +kernel
theorem dL_law_216 : decode cL_law 216 = .ok (.iadd, 1) := by decide +kernel
theorem dL_law_217 : decode cL_law 217 = .ok (.iaload, 1) := by decide +kernel
theorem dL_law_218 : decode cL_law 218 = .ok (.invokevirtual 22, 3) := by decide +kernel
theorem dL_law_221 : decode cL_law 221 = .ok (.if_icmp .eq 581, 3) := by decide +kernel
theorem dL_law_224 : decode cL_law 224 = .ok (.iconst 0, 1) := by decide +kernel
theorem dL_law_225 : decode cL_law 225 = .ok (.ireturn, 1) := by decide +kernel
theorem dL_law_226 : decode cL_law 226 = .ok (.aload_n 1, 1) := by decide +kernel
theorem dL_law_227 : decode cL_law 227 = .ok (.aload_n 0, 1) := by decide +kernel
theorem dL_law_228 : decode cL_law 228 = .ok (.iload_n 3, 1) := by decide +kernel
theorem dL_law_229 : decode cL_law 229 = .ok (.iconst 1, 1) := by decide +kernel
theorem dL_law_230 : decode cL_law 230 = .ok (.iadd, 1) := by decide +kernel
theorem dL_law_231 : decode cL_law 231 = .ok (.iaload, 1) := by decide +kernel
theorem dL_law_232 : decode cL_law 232 = .ok (.invokevirtual 23, 3) := by decide +kernel
theorem dL_law_235 : decode cL_law 235 = .ok (.aload_n 2, 1) := by decide +kernel
theorem dL_law_236 : decode cL_law 236 = .ok (.aload_n 0, 1) := by decide +kernel
theorem dL_law_237 : decode cL_law 237 = .ok (.iload_n 3, 1) := by decide +kernel
theorem dL_law_238 : decode cL_law 238 = .ok (.iconst 1, 1) := by decide +kernel
theorem dL_law_239 : decode cL_law 239 = .ok (.iadd, 1) := by decide +kernel
theorem dL_law_240 : decode cL_law 240 = .ok (.iaload, 1) := by decide +kernel
theorem dL_law_241 : decode cL_law 241 = .ok (.invokevirtual 27, 3) := by decide +kernel
theorem dL_law_244 : decode cL_law 244 = .ok (.if_icmp .eq 558, 3) := by decide +kernel
theorem dL_law_247 : decode cL_law 247 = .ok (.iconst 0, 1) := by decide +kernel
theorem dL_law_248 : decode cL_law 248 = .ok (.ireturn, 1) := by decide +kernel
theorem dL_law_249 : decode cL_law 249 = .ok (.aload_n 1, 1) := by decide +kernel
theorem dL_law_250 : decode cL_law 250 = .ok (.aload_n 0, 1) := by decide +kernel
theorem dL_law_251 : decode cL_law 251 = .ok (.iload_n 3, 1) := by decide +kernel
theorem dL_law_252 : decode cL_law 252 = .ok (.iconst 1, 1) := by decide +kernel
theorem dL_law_253 : decode cL_law 253 = .ok (.iadd, 1) := by decide +kernel
theorem dL_law_254 : decode cL_law 254 = .ok (.iaload, 1) := by decide +kernel
theorem dL_law_255 : decode cL_law 255 = .ok (.invokevirtual 28, 3) := by decide +kernel
theorem dL_law_258 : decode cL_law 258 = .ok (.aload_n 2, 1) := by decide +kernel
theorem dL_law_259 : decode cL_law 259 = .ok (.aload_n 0, 1) := by decide +kernel
theorem dL_law_260 : decode cL_law 260 = .ok (.iload_n 3, 1) := by decide +kernel
theorem dL_law_261 : decode cL_law 261 = .ok (.iconst 1, 1) := by decide +kernel
theorem dL_law_262 : decode cL_law 262 = .ok (.iadd, 1) := by decide +kernel
theorem dL_law_263 : decode cL_law 263 = .ok (.iaload, 1) := by decide +kernel
theorem dL_law_264 : decode cL_law 264 = .ok (.invokevirtual 31, 3) := by decide +kernel
theorem dL_law_267 : decode cL_law 267 = .ok (.if_icmp .eq 535, 3) := by decide +kernel
theorem dL_law_270 : decode cL_law 270 = .ok (.iconst 0, 1) := by decide +kernel
theorem dL_law_271 : decode cL_law 271 = .ok (.ireturn, 1) := by decide +kernel
theorem dL_law_272 : decode cL_law 272 = .ok (.aload_n 1, 1) := by decide +kernel
theorem dL_law_273 : decode cL_law 273 = .ok (.aload_n 0, 1) := by decide +kernel
theorem dL_law_274 : decode cL_law 274 = .ok (.iload_n 3, 1) := by decide +kernel
theorem dL_law_275 : decode cL_law 275 = .ok (.iconst 1, 1) := by decide +kernel
theorem dL_law_276 : decode cL_law 276 = .ok (.iadd, 1) := by decide +kernel
theorem dL_law_277 : decode cL_law 277 = .ok (.iaload, 1) := by decide +kernel
theorem dL_law_278 : decode cL_law 278 = .ok (.aload_n 0, 1) := by decide +kernel
theorem dL_law_279 : decode cL_law 279 = .ok (.iload_n 3, 1) := by decide +kernel
theorem dL_law_280 : decode cL_law 280 = .ok (.iconst 2, 1) := by decide +kernel
theorem dL_law_281 : decode cL_law 281 = .ok (.iadd, 1) := by decide +kernel
theorem dL_law_282 : decode cL_law 282 = .ok (.iaload, 1) := by decide +kernel
theorem dL_law_283 : decode cL_law 283 = .ok (.invokevirtual 32, 3) := by decide +kernel
theorem dL_law_286 : decode cL_law 286 = .ok (.aload_n 2, 1) := by decide +kernel
theorem dL_law_287 : decode cL_law 287 = .ok (.aload_n 0, 1) := by decide +kernel
theorem dL_law_288 : decode cL_law 288 = .ok (.iload_n 3, 1) := by decide +kernel
theorem dL_law_289 : decode cL_law 289 = .ok (.iconst 1, 1) := by decide +kernel
theorem dL_law_290 : decode cL_law 290 = .ok (.iadd, 1) := by decide +kernel
theorem dL_law_291 : decode cL_law 291 = .ok (.iaload, 1) := by decide +kernel
theorem dL_law_292 : decode cL_law 292 = .ok (.aload_n 0, 1) := by decide +kernel
theorem dL_law_293 : decode cL_law 293 = .ok (.iload_n 3, 1) := by decide +kernel
theorem dL_law_294 : decode cL_law 294 = .ok (.iconst 2, 1) := by decide +kernel
theorem dL_law_295 : decode cL_law 295 = .ok (.iadd, 1) := by decide +kernel
theorem dL_law_296 : decode cL_law 296 = .ok (.iaload, 1) := by decide +kernel
theorem dL_law_297 : decode cL_law 297 = .ok (.invokevirtual 36, 3) := by decide +kernel
theorem dL_law_300 : decode cL_law 300 = .ok (.if_icmp .eq 502, 3) := by decide +kernel
theorem dL_law_303 : decode cL_law 303 = .ok (.iconst 0, 1) := by decide +kernel
theorem dL_law_304 : decode cL_law 304 = .ok (.ireturn, 1) := by decide +kernel
theorem dL_law_305 : decode cL_law 305 = .ok (.aload_n 1, 1) := by decide +kernel
theorem dL_law_306 : decode cL_law 306 = .ok (.aload_n 0, 1) := by decide +kernel
theorem dL_law_307 : decode cL_law 307 = .ok (.iload_n 3, 1) := by decide +kernel
theorem dL_law_308 : decode cL_law 308 = .ok (.iconst 1, 1) := by decide +kernel
theorem dL_law_309 : decode cL_law 309 = .ok (.iadd, 1) := by decide +kernel
theorem dL_law_310 : decode cL_law 310 = .ok (.iaload, 1) := by decide +kernel
theorem dL_law_311 : decode cL_law 311 = .ok (.aload_n 0, 1) := by decide +kernel
theorem dL_law_312 : decode cL_law 312 = .ok (.iload_n 3, 1) := by decide +kernel
theorem dL_law_313 : decode cL_law 313 = .ok (.iconst 2, 1) := by decide +kernel
theorem dL_law_314 : decode cL_law 314 = .ok (.iadd, 1) := by decide +kernel
theorem dL_law_315 : decode cL_law 315 = .ok (.iaload, 1) := by decide +kernel
theorem dL_law_316 : decode cL_law 316 = .ok (.invokevirtual 37, 3) := by decide +kernel
theorem dL_law_319 : decode cL_law 319 = .ok (.aload_n 2, 1) := by decide +kernel
theorem dL_law_320 : decode cL_law 320 = .ok (.aload_n 0, 1) := by decide +kernel
theorem dL_law_321 : decode cL_law 321 = .ok (.iload_n 3, 1) := by decide +kernel
theorem dL_law_322 : decode cL_law 322 = .ok (.iconst 1, 1) := by decide +kernel
theorem dL_law_323 : decode cL_law 323 = .ok (.iadd, 1) := by decide +kernel
theorem dL_law_324 : decode cL_law 324 = .ok (.iaload, 1) := by decide +kernel
theorem dL_law_325 : decode cL_law 325 = .ok (.aload_n 0, 1) := by decide +kernel
theorem dL_law_326 : decode cL_law 326 = .ok (.iload_n 3, 1) := by decide +kernel
theorem dL_law_327 : decode cL_law 327 = .ok (.iconst 2, 1) := by decide +kernel
theorem dL_law_328 : decode cL_law 328 = .ok (.iadd, 1) := by decide +kernel
theorem dL_law_329 : decode cL_law 329 = .ok (.iaload, 1) := by decide +kernel
theorem dL_law_330 : decode cL_law 330 = .ok (.invokevirtual 41, 3) := by decide +kernel
theorem dL_law_333 : decode cL_law 333 = .ok (.if_icmp .eq 469, 3) := by decide +kernel
theorem dL_law_336 : decode cL_law 336 = .ok (.iconst 0, 1) := by decide +kernel
theorem dL_law_337 : decode cL_law 337 = .ok (.ireturn, 1) := by decide +kernel
theorem dL_law_338 : decode cL_law 338 = .ok (.aload_n 1, 1) := by decide +kernel
theorem dL_law_339 : decode cL_law 339 = .ok (.aload_n 0, 1) := by decide +kernel
theorem dL_law_340 : decode cL_law 340 = .ok (.iload_n 3, 1) := by decide +kernel
theorem dL_law_341 : decode cL_law 341 = .ok (.iconst 1, 1) := by decide +kernel
theorem dL_law_342 : decode cL_law 342 = .ok (.iadd, 1) := by decide +kernel
theorem dL_law_343 : decode cL_law 343 = .ok (.iaload, 1) := by decide +kernel
theorem dL_law_344 : decode cL_law 344 = .ok (.aload_n 0, 1) := by decide +kernel
theorem dL_law_345 : decode cL_law 345 = .ok (.iload_n 3, 1) := by decide +kernel
theorem dL_law_346 : decode cL_law 346 = .ok (.iconst 2, 1) := by decide +kernel
theorem dL_law_347 : decode cL_law 347 = .ok (.iadd, 1) := by decide +kernel
theorem dL_law_348 : decode cL_law 348 = .ok (.iaload, 1) := by decide +kernel
theorem dL_law_349 : decode cL_law 349 = .ok (.invokevirtual 42, 3) := by decide +kernel
theorem dL_law_352 : decode cL_law 352 = .ok (.aload_n 2, 1) := by decide +kernel
theorem dL_law_353 : decode cL_law 353 = .ok (.aload_n 0, 1) := by decide +kernel
theorem dL_law_354 : decode cL_law 354 = .ok (.iload_n 3, 1) := by decide +kernel
theorem dL_law_355 : decode cL_law 355 = .ok (.iconst 1, 1) := by decide +kernel
theorem dL_law_356 : decode cL_law 356 = .ok (.iadd, 1) := by decide +kernel
theorem dL_law_357 : decode cL_law 357 = .ok (.iaload, 1) := by decide +kernel
theorem dL_law_358 : decode cL_law 358 = .ok (.aload_n 0, 1) := by decide +kernel
theorem dL_law_359 : decode cL_law 359 = .ok (.iload_n 3, 1) := by decide +kernel
theorem dL_law_360 : decode cL_law 360 = .ok (.iconst 2, 1) := by decide +kernel
theorem dL_law_361 : decode cL_law 361 = .ok (.iadd, 1) := by decide +kernel
theorem dL_law_362 : decode cL_law 362 = .ok (.iaload, 1) := by decide +kernel
theorem dL_law_363 : decode cL_law 363 = .ok (.invokevirtual 45, 3) := by decide +kernel
theorem dL_law_366 : decode cL_law 366 = .ok (.if_icmp .eq 436, 3) := by decide +kernel
theorem dL_law_369 : decode cL_law 369 = .ok (.iconst 0, 1) := by decide +kernel
theorem dL_law_370 : decode cL_law 370 = .ok (.ireturn, 1) := by decide +kernel
theorem dL_law_371 : decode cL_law 371 = .ok (.aload_n 1, 1) := by decide +kernel
theorem dL_law_372 : decode cL_law 372 = .ok (.aload_n 0, 1) := by decide +kernel
theorem dL_law_373 : decode cL_law 373 = .ok (.iload_n 3, 1) := by decide +kernel
theorem dL_law_374 : decode cL_law 374 = .ok (.iconst 1, 1) := by decide +kernel
theorem dL_law_375 : decode cL_law 375 = .ok (.iadd, 1) := by decide +kernel
theorem dL_law_376 : decode cL_law 376 = .ok (.iaload, 1) := by decide +kernel
theorem dL_law_377 : decode cL_law 377 = .ok (.aload_n 0, 1) := by decide +kernel
theorem dL_law_378 : decode cL_law 378 = .ok (.iload_n 3, 1) := by decide +kernel
theorem dL_law_379 : decode cL_law 379 = .ok (.iconst 2, 1) := by decide +kernel
theorem dL_law_380 : decode cL_law 380 = .ok (.iadd, 1) := by decide +kernel
theorem dL_law_381 : decode cL_law 381 = .ok (.iaload, 1) := by decide +kernel
theorem dL_law_382 : decode cL_law 382 = .ok (.aload_n 0, 1) := by decide +kernel
theorem dL_law_383 : decode cL_law 383 = .ok (.iload_n 3, 1) := by decide +kernel
theorem dL_law_384 : decode cL_law 384 = .ok (.iconst 3, 1) := by decide +kernel
theorem dL_law_385 : decode cL_law 385 = .ok (.iadd, 1) := by decide +kernel
theorem dL_law_386 : decode cL_law 386 = .ok (.iaload, 1) := by decide +kernel
theorem dL_law_387 : decode cL_law 387 = .ok (.aload_n 0, 1) := by decide +kernel
theorem dL_law_388 : decode cL_law 388 = .ok (.iload_n 3, 1) := by decide +kernel
theorem dL_law_389 : decode cL_law 389 = .ok (.iconst 4, 1) := by decide +kernel
theorem dL_law_390 : decode cL_law 390 = .ok (.iadd, 1) := by decide +kernel
theorem dL_law_391 : decode cL_law 391 = .ok (.iaload, 1) := by decide +kernel
theorem dL_law_392 : decode cL_law 392 = .ok (.aload_n 0, 1) := by decide +kernel
theorem dL_law_393 : decode cL_law 393 = .ok (.iload_n 3, 1) := by decide +kernel
theorem dL_law_394 : decode cL_law 394 = .ok (.iconst 5, 1) := by decide +kernel
theorem dL_law_395 : decode cL_law 395 = .ok (.iadd, 1) := by decide +kernel
theorem dL_law_396 : decode cL_law 396 = .ok (.iaload, 1) := by decide +kernel
theorem dL_law_397 : decode cL_law 397 = .ok (.invokevirtual 46, 3) := by decide +kernel
theorem dL_law_400 : decode cL_law 400 = .ok (.aload_n 2, 1) := by decide +kernel
theorem dL_law_401 : decode cL_law 401 = .ok (.aload_n 0, 1) := by decide +kernel
theorem dL_law_402 : decode cL_law 402 = .ok (.iload_n 3, 1) := by decide +kernel
theorem dL_law_403 : decode cL_law 403 = .ok (.iconst 1, 1) := by decide +kernel
theorem dL_law_404 : decode cL_law 404 = .ok (.iadd, 1) := by decide +kernel
theorem dL_law_405 : decode cL_law 405 = .ok (.iaload, 1) := by decide +kernel
theorem dL_law_406 : decode cL_law 406 = .ok (.aload_n 0, 1) := by decide +kernel
theorem dL_law_407 : decode cL_law 407 = .ok (.iload_n 3, 1) := by decide +kernel
theorem dL_law_408 : decode cL_law 408 = .ok (.iconst 2, 1) := by decide +kernel
theorem dL_law_409 : decode cL_law 409 = .ok (.iadd, 1) := by decide +kernel
theorem dL_law_410 : decode cL_law 410 = .ok (.iaload, 1) := by decide +kernel
theorem dL_law_411 : decode cL_law 411 = .ok (.aload_n 0, 1) := by decide +kernel
theorem dL_law_412 : decode cL_law 412 = .ok (.iload_n 3, 1) := by decide +kernel
theorem dL_law_413 : decode cL_law 413 = .ok (.iconst 3, 1) := by decide +kernel
theorem dL_law_414 : decode cL_law 414 = .ok (.iadd, 1) := by decide +kernel
theorem dL_law_415 : decode cL_law 415 = .ok (.iaload, 1) := by decide +kernel
theorem dL_law_416 : decode cL_law 416 = .ok (.aload_n 0, 1) := by decide +kernel
theorem dL_law_417 : decode cL_law 417 = .ok (.iload_n 3, 1) := by decide +kernel
theorem dL_law_418 : decode cL_law 418 = .ok (.iconst 4, 1) := by decide +kernel
theorem dL_law_419 : decode cL_law 419 = .ok (.iadd, 1) := by decide +kernel
theorem dL_law_420 : decode cL_law 420 = .ok (.iaload, 1) := by decide +kernel
theorem dL_law_421 : decode cL_law 421 = .ok (.aload_n 0, 1) := by decide +kernel
theorem dL_law_422 : decode cL_law 422 = .ok (.iload_n 3, 1) := by decide +kernel
theorem dL_law_423 : decode cL_law 423 = .ok (.iconst 5, 1) := by decide +kernel
theorem dL_law_424 : decode cL_law 424 = .ok (.iadd, 1) := by decide +kernel
theorem dL_law_425 : decode cL_law 425 = .ok (.iaload, 1) := by decide +kernel
theorem dL_law_426 : decode cL_law 426 = .ok (.invokevirtual 49, 3) := by decide +kernel
theorem dL_law_429 : decode cL_law 429 = .ok (.if_icmp .eq 373, 3) := by decide +kernel
theorem dL_law_432 : decode cL_law 432 = .ok (.iconst 0, 1) := by decide +kernel
theorem dL_law_433 : decode cL_law 433 = .ok (.ireturn, 1) := by decide +kernel
theorem dL_law_434 : decode cL_law 434 = .ok (.aload_n 1, 1) := by decide +kernel
theorem dL_law_435 : decode cL_law 435 = .ok (.aload_n 0, 1) := by decide +kernel
theorem dL_law_436 : decode cL_law 436 = .ok (.iload_n 3, 1) := by decide +kernel
theorem dL_law_437 : decode cL_law 437 = .ok (.iconst 1, 1) := by decide +kernel
theorem dL_law_438 : decode cL_law 438 = .ok (.iadd, 1) := by decide +kernel
theorem dL_law_439 : decode cL_law 439 = .ok (.iaload, 1) := by decide +kernel
theorem dL_law_440 : decode cL_law 440 = .ok (.invokevirtual 50, 3) := by decide +kernel
theorem dL_law_443 : decode cL_law 443 = .ok (.aload_n 2, 1) := by decide +kernel
theorem dL_law_444 : decode cL_law 444 = .ok (.aload_n 0, 1) := by decide +kernel
theorem dL_law_445 : decode cL_law 445 = .ok (.iload_n 3, 1) := by decide +kernel
theorem dL_law_446 : decode cL_law 446 = .ok (.iconst 1, 1) := by decide +kernel
theorem dL_law_447 : decode cL_law 447 = .ok (.iadd, 1) := by decide +kernel
theorem dL_law_448 : decode cL_law 448 = .ok (.iaload, 1) := by decide +kernel
theorem dL_law_449 : decode cL_law 449 = .ok (.invokevirtual 53, 3) := by decide +kernel
theorem dL_law_452 : decode cL_law 452 = .ok (.if_icmp .eq 350, 3) := by decide +kernel
theorem dL_law_455 : decode cL_law 455 = .ok (.iconst 0, 1) := by decide +kernel
theorem dL_law_456 : decode cL_law 456 = .ok (.ireturn, 1) := by decide +kernel
theorem dL_law_457 : decode cL_law 457 = .ok (.aload_n 1, 1) := by decide +kernel
theorem dL_law_458 : decode cL_law 458 = .ok (.aload_n 0, 1) := by decide +kernel
theorem dL_law_459 : decode cL_law 459 = .ok (.iload_n 3, 1) := by decide +kernel
theorem dL_law_460 : decode cL_law 460 = .ok (.iconst 1, 1) := by decide +kernel
theorem dL_law_461 : decode cL_law 461 = .ok (.iadd, 1) := by decide +kernel
theorem dL_law_462 : decode cL_law 462 = .ok (.iaload, 1) := by decide +kernel
theorem dL_law_463 : decode cL_law 463 = .ok (.invokevirtual 54, 3) := by decide +kernel
theorem dL_law_466 : decode cL_law 466 = .ok (.aload_n 2, 1) := by decide +kernel
theorem dL_law_467 : decode cL_law 467 = .ok (.aload_n 0, 1) := by decide +kernel
theorem dL_law_468 : decode cL_law 468 = .ok (.iload_n 3, 1) := by decide +kernel
theorem dL_law_469 : decode cL_law 469 = .ok (.iconst 1, 1) := by decide +kernel
theorem dL_law_470 : decode cL_law 470 = .ok (.iadd, 1) := by decide +kernel
theorem dL_law_471 : decode cL_law 471 = .ok (.iaload, 1) := by decide +kernel
theorem dL_law_472 : decode cL_law 472 = .ok (.invokevirtual 57, 3) := by decide +kernel
theorem dL_law_475 : decode cL_law 475 = .ok (.if_icmp .eq 327, 3) := by decide +kernel
theorem dL_law_478 : decode cL_law 478 = .ok (.iconst 0, 1) := by decide +kernel
theorem dL_law_479 : decode cL_law 479 = .ok (.ireturn, 1) := by decide +kernel
theorem dL_law_480 : decode cL_law 480 = .ok (.aload_n 1, 1) := by decide +kernel
theorem dL_law_481 : decode cL_law 481 = .ok (.invokevirtual 58, 3) := by decide +kernel
theorem dL_law_484 : decode cL_law 484 = .ok (.aload_n 2, 1) := by decide +kernel
theorem dL_law_485 : decode cL_law 485 = .ok (.invokevirtual 62, 3) := by decide +kernel
theorem dL_law_488 : decode cL_law 488 = .ok (.if_icmp .eq 314, 3) := by decide +kernel
theorem dL_law_491 : decode cL_law 491 = .ok (.iconst 0, 1) := by decide +kernel
theorem dL_law_492 : decode cL_law 492 = .ok (.ireturn, 1) := by decide +kernel
theorem dL_law_493 : decode cL_law 493 = .ok (.aload_n 1, 1) := by decide +kernel
theorem dL_law_494 : decode cL_law 494 = .ok (.aload_n 0, 1) := by decide +kernel
theorem dL_law_495 : decode cL_law 495 = .ok (.iload_n 3, 1) := by decide +kernel
theorem dL_law_496 : decode cL_law 496 = .ok (.iconst 1, 1) := by decide +kernel
theorem dL_law_497 : decode cL_law 497 = .ok (.iadd, 1) := by decide +kernel
theorem dL_law_498 : decode cL_law 498 = .ok (.iaload, 1) := by decide +kernel
theorem dL_law_499 : decode cL_law 499 = .ok (.invokevirtual 63, 3) := by decide +kernel
theorem dL_law_502 : decode cL_law 502 = .ok (.aload_n 2, 1) := by decide +kernel
theorem dL_law_503 : decode cL_law 503 = .ok (.aload_n 0, 1) := by decide +kernel
theorem dL_law_504 : decode cL_law 504 = .ok (.iload_n 3, 1) := by decide +kernel
theorem dL_law_505 : decode cL_law 505 = .ok (.iconst 1, 1) := by decide +kernel
theorem dL_law_506 : decode cL_law 506 = .ok (.iadd, 1) := by decide +kernel
theorem dL_law_507 : decode cL_law 507 = .ok (.iaload, 1) := by decide +kernel
theorem dL_law_508 : decode cL_law 508 = .ok (.invokevirtual 66, 3) := by decide +kernel
theorem dL_law_511 : decode cL_law 511 = .ok (.if_icmp .eq 291, 3) := by decide +kernel
theorem dL_law_514 : decode cL_law 514 = .ok (.iconst 0, 1) := by decide +kernel
theorem dL_law_515 : decode cL_law 515 = .ok (.ireturn, 1) := by decide +kernel
theorem dL_law_516 : decode cL_law 516 = .ok (.aload_n 1, 1) := by decide +kernel
theorem dL_law_517 : decode cL_law 517 = .ok (.aload_n 0, 1) := by decide +kernel
theorem dL_law_518 : decode cL_law 518 = .ok (.iload_n 3, 1) := by decide +kernel
theorem dL_law_519 : decode cL_law 519 = .ok (.iconst 1, 1) := by decide +kernel
theorem dL_law_520 : decode cL_law 520 = .ok (.iadd, 1) := by decide +kernel
theorem dL_law_521 : decode cL_law 521 = .ok (.iaload, 1) := by decide +kernel
theorem dL_law_522 : decode cL_law 522 = .ok (.aload_n 0, 1) := by decide +kernel
theorem dL_law_523 : decode cL_law 523 = .ok (.iload_n 3, 1) := by decide +kernel
theorem dL_law_524 : decode cL_law 524 = .ok (.iconst 2, 1) := by decide +kernel
theorem dL_law_525 : decode cL_law 525 = .ok (.iadd, 1) := by decide +kernel
theorem dL_law_526 : decode cL_law 526 = .ok (.iaload, 1) := by decide +kernel
theorem dL_law_527 : decode cL_law 527 = .ok (.invokevirtual 67, 3) := by decide +kernel
theorem dL_law_530 : decode cL_law 530 = .ok (.aload_n 2, 1) := by decide +kernel
theorem dL_law_531 : decode cL_law 531 = .ok (.aload_n 0, 1) := by decide +kernel
theorem dL_law_532 : decode cL_law 532 = .ok (.iload_n 3, 1) := by decide +kernel
theorem dL_law_533 : decode cL_law 533 = .ok (.iconst 1, 1) := by decide +kernel
theorem dL_law_534 : decode cL_law 534 = .ok (.iadd, 1) := by decide +kernel
theorem dL_law_535 : decode cL_law 535 = .ok (.iaload, 1) := by decide +kernel
theorem dL_law_536 : decode cL_law 536 = .ok (.aload_n 0, 1) := by decide +kernel
theorem dL_law_537 : decode cL_law 537 = .ok (.iload_n 3, 1) := by decide +kernel
theorem dL_law_538 : decode cL_law 538 = .ok (.iconst 2, 1) := by decide +kernel
theorem dL_law_539 : decode cL_law 539 = .ok (.iadd, 1) := by decide +kernel
theorem dL_law_540 : decode cL_law 540 = .ok (.iaload, 1) := by decide +kernel
theorem dL_law_541 : decode cL_law 541 = .ok (.invokevirtual 70, 3) := by decide +kernel
theorem dL_law_544 : decode cL_law 544 = .ok (.if_icmp .eq 258, 3) := by decide +kernel
theorem dL_law_547 : decode cL_law 547 = .ok (.iconst 0, 1) := by decide +kernel
theorem dL_law_548 : decode cL_law 548 = .ok (.ireturn, 1) := by decide +kernel
theorem dL_law_549 : decode cL_law 549 = .ok (.aload_n 1, 1) := by decide +kernel
theorem dL_law_550 : decode cL_law 550 = .ok (.aload_n 0, 1) := by decide +kernel
theorem dL_law_551 : decode cL_law 551 = .ok (.iload_n 3, 1) := by decide +kernel
theorem dL_law_552 : decode cL_law 552 = .ok (.iconst 1, 1) := by decide +kernel
theorem dL_law_553 : decode cL_law 553 = .ok (.iadd, 1) := by decide +kernel
theorem dL_law_554 : decode cL_law 554 = .ok (.iaload, 1) := by decide +kernel
theorem dL_law_555 : decode cL_law 555 = .ok (.aload_n 0, 1) := by decide +kernel
theorem dL_law_556 : decode cL_law 556 = .ok (.iload_n 3, 1) := by decide +kernel
theorem dL_law_557 : decode cL_law 557 = .ok (.iconst 2, 1) := by decide +kernel
theorem dL_law_558 : decode cL_law 558 = .ok (.iadd, 1) := by decide +kernel
theorem dL_law_559 : decode cL_law 559 = .ok (.iaload, 1) := by decide +kernel
theorem dL_law_560 : decode cL_law 560 = .ok (.invokevirtual 71, 3) := by decide +kernel
theorem dL_law_563 : decode cL_law 563 = .ok (.aload_n 2, 1) := by decide +kernel
theorem dL_law_564 : decode cL_law 564 = .ok (.aload_n 0, 1) := by decide +kernel
theorem dL_law_565 : decode cL_law 565 = .ok (.iload_n 3, 1) := by decide +kernel
theorem dL_law_566 : decode cL_law 566 = .ok (.iconst 1, 1) := by decide +kernel
theorem dL_law_567 : decode cL_law 567 = .ok (.iadd, 1) := by decide +kernel
theorem dL_law_568 : decode cL_law 568 = .ok (.iaload, 1) := by decide +kernel
theorem dL_law_569 : decode cL_law 569 = .ok (.aload_n 0, 1) := by decide +kernel
theorem dL_law_570 : decode cL_law 570 = .ok (.iload_n 3, 1) := by decide +kernel
theorem dL_law_571 : decode cL_law 571 = .ok (.iconst 2, 1) := by decide +kernel
theorem dL_law_572 : decode cL_law 572 = .ok (.iadd, 1) := by decide +kernel
theorem dL_law_573 : decode cL_law 573 = .ok (.iaload, 1) := by decide +kernel
theorem dL_law_574 : decode cL_law 574 = .ok (.invokevirtual 75, 3) := by decide +kernel
theorem dL_law_577 : decode cL_law 577 = .ok (.lcmp, 1) := by decide +kernel
theorem dL_law_578 : decode cL_law 578 = .ok (.ifCond .eq 224, 3) := by decide +kernel
theorem dL_law_581 : decode cL_law 581 = .ok (.iconst 0, 1) := by decide +kernel
theorem dL_law_582 : decode cL_law 582 = .ok (.ireturn, 1) := by decide +kernel
theorem dL_law_583 : decode cL_law 583 = .ok (.aload_n 1, 1) := by decide +kernel
theorem dL_law_584 : decode cL_law 584 = .ok (.aload_n 0, 1) := by decide +kernel
theorem dL_law_585 : decode cL_law 585 = .ok (.iload_n 3, 1) := by decide +kernel
theorem dL_law_586 : decode cL_law 586 = .ok (.iconst 1, 1) := by decide +kernel
theorem dL_law_587 : decode cL_law 587 = .ok (.iadd, 1) := by decide +kernel
theorem dL_law_588 : decode cL_law 588 = .ok (.iaload, 1) := by decide +kernel
theorem dL_law_589 : decode cL_law 589 = .ok (.invokevirtual 76, 3) := by decide +kernel
theorem dL_law_592 : decode cL_law 592 = .ok (.aload_n 2, 1) := by decide +kernel
theorem dL_law_593 : decode cL_law 593 = .ok (.aload_n 0, 1) := by decide +kernel
theorem dL_law_594 : decode cL_law 594 = .ok (.iload_n 3, 1) := by decide +kernel
theorem dL_law_595 : decode cL_law 595 = .ok (.iconst 1, 1) := by decide +kernel
theorem dL_law_596 : decode cL_law 596 = .ok (.iadd, 1) := by decide +kernel
theorem dL_law_597 : decode cL_law 597 = .ok (.iaload, 1) := by decide +kernel
theorem dL_law_598 : decode cL_law 598 = .ok (.invokevirtual 80, 3) := by decide +kernel
theorem dL_law_601 : decode cL_law 601 = .ok (.lcmp, 1) := by decide +kernel
theorem dL_law_602 : decode cL_law 602 = .ok (.ifCond .eq 200, 3) := by decide +kernel
theorem dL_law_605 : decode cL_law 605 = .ok (.iconst 0, 1) := by decide +kernel
theorem dL_law_606 : decode cL_law 606 = .ok (.ireturn, 1) := by decide +kernel
theorem dL_law_607 : decode cL_law 607 = .ok (.aload_n 1, 1) := by decide +kernel
theorem dL_law_608 : decode cL_law 608 = .ok (.aload_n 0, 1) := by decide +kernel
theorem dL_law_609 : decode cL_law 609 = .ok (.iload_n 3, 1) := by decide +kernel
theorem dL_law_610 : decode cL_law 610 = .ok (.iconst 1, 1) := by decide +kernel
theorem dL_law_611 : decode cL_law 611 = .ok (.iadd, 1) := by decide +kernel
theorem dL_law_612 : decode cL_law 612 = .ok (.iaload, 1) := by decide +kernel
theorem dL_law_613 : decode cL_law 613 = .ok (.invokevirtual 81, 3) := by decide +kernel
theorem dL_law_616 : decode cL_law 616 = .ok (.aload_n 2, 1) := by decide +kernel
theorem dL_law_617 : decode cL_law 617 = .ok (.aload_n 0, 1) := by decide +kernel
theorem dL_law_618 : decode cL_law 618 = .ok (.iload_n 3, 1) := by decide +kernel
theorem dL_law_619 : decode cL_law 619 = .ok (.iconst 1, 1) := by decide +kernel
theorem dL_law_620 : decode cL_law 620 = .ok (.iadd, 1) := by decide +kernel
theorem dL_law_621 : decode cL_law 621 = .ok (.iaload, 1) := by decide +kernel
theorem dL_law_622 : decode cL_law 622 = .ok (.invokevirtual 84, 3) := by decide +kernel
theorem dL_law_625 : decode cL_law 625 = .ok (.if_icmp .eq 177, 3) := by decide +kernel
theorem dL_law_628 : decode cL_law 628 = .ok (.iconst 0, 1) := by decide +kernel
theorem dL_law_629 : decode cL_law 629 = .ok (.ireturn, 1) := by decide +kernel
theorem dL_law_630 : decode cL_law 630 = .ok (.aload_n 1, 1) := by decide +kernel
theorem dL_law_631 : decode cL_law 631 = .ok (.aload_n 0, 1) := by decide +kernel
theorem dL_law_632 : decode cL_law 632 = .ok (.iload_n 3, 1) := by decide +kernel
theorem dL_law_633 : decode cL_law 633 = .ok (.iconst 1, 1) := by decide +kernel
theorem dL_law_634 : decode cL_law 634 = .ok (.iadd, 1) := by decide +kernel
theorem dL_law_635 : decode cL_law 635 = .ok (.iaload, 1) := by decide +kernel
theorem dL_law_636 : decode cL_law 636 = .ok (.aload_n 0, 1) := by decide +kernel
theorem dL_law_637 : decode cL_law 637 = .ok (.iload_n 3, 1) := by decide +kernel
theorem dL_law_638 : decode cL_law 638 = .ok (.iconst 2, 1) := by decide +kernel
theorem dL_law_639 : decode cL_law 639 = .ok (.iadd, 1) := by decide +kernel
theorem dL_law_640 : decode cL_law 640 = .ok (.iaload, 1) := by decide +kernel
theorem dL_law_641 : decode cL_law 641 = .ok (.invokevirtual 85, 3) := by decide +kernel
theorem dL_law_644 : decode cL_law 644 = .ok (.aload_n 2, 1) := by decide +kernel
theorem dL_law_645 : decode cL_law 645 = .ok (.aload_n 0, 1) := by decide +kernel
theorem dL_law_646 : decode cL_law 646 = .ok (.iload_n 3, 1) := by decide +kernel
theorem dL_law_647 : decode cL_law 647 = .ok (.iconst 1, 1) := by decide +kernel
theorem dL_law_648 : decode cL_law 648 = .ok (.iadd, 1) := by decide +kernel
theorem dL_law_649 : decode cL_law 649 = .ok (.iaload, 1) := by decide +kernel
theorem dL_law_650 : decode cL_law 650 = .ok (.aload_n 0, 1) := by decide +kernel
theorem dL_law_651 : decode cL_law 651 = .ok (.iload_n 3, 1) := by decide +kernel
theorem dL_law_652 : decode cL_law 652 = .ok (.iconst 2, 1) := by decide +kernel
theorem dL_law_653 : decode cL_law 653 = .ok (.iadd, 1) := by decide +kernel
theorem dL_law_654 : decode cL_law 654 = .ok (.iaload, 1) := by decide +kernel
theorem dL_law_655 : decode cL_law 655 = .ok (.invokevirtual 88, 3) := by decide +kernel
theorem dL_law_658 : decode cL_law 658 = .ok (.if_icmp .eq 144, 3) := by decide +kernel
theorem dL_law_661 : decode cL_law 661 = .ok (.iconst 0, 1) := by decide +kernel
theorem dL_law_662 : decode cL_law 662 = .ok (.ireturn, 1) := by decide +kernel
theorem dL_law_663 : decode cL_law 663 = .ok (.aload_n 1, 1) := by decide +kernel
theorem dL_law_664 : decode cL_law 664 = .ok (.aload_n 0, 1) := by decide +kernel
theorem dL_law_665 : decode cL_law 665 = .ok (.iload_n 3, 1) := by decide +kernel
theorem dL_law_666 : decode cL_law 666 = .ok (.iconst 1, 1) := by decide +kernel
theorem dL_law_667 : decode cL_law 667 = .ok (.iadd, 1) := by decide +kernel
theorem dL_law_668 : decode cL_law 668 = .ok (.iaload, 1) := by decide +kernel
theorem dL_law_669 : decode cL_law 669 = .ok (.invokevirtual 89, 3) := by decide +kernel
theorem dL_law_672 : decode cL_law 672 = .ok (.aload_n 2, 1) := by decide +kernel
theorem dL_law_673 : decode cL_law 673 = .ok (.aload_n 0, 1) := by decide +kernel
theorem dL_law_674 : decode cL_law 674 = .ok (.iload_n 3, 1) := by decide +kernel
theorem dL_law_675 : decode cL_law 675 = .ok (.iconst 1, 1) := by decide +kernel
theorem dL_law_676 : decode cL_law 676 = .ok (.iadd, 1) := by decide +kernel
theorem dL_law_677 : decode cL_law 677 = .ok (.iaload, 1) := by decide +kernel
theorem dL_law_678 : decode cL_law 678 = .ok (.invokevirtual 92, 3) := by decide +kernel
theorem dL_law_681 : decode cL_law 681 = .ok (.if_icmp .eq 121, 3) := by decide +kernel
theorem dL_law_684 : decode cL_law 684 = .ok (.iconst 0, 1) := by decide +kernel
theorem dL_law_685 : decode cL_law 685 = .ok (.ireturn, 1) := by decide +kernel
theorem dL_law_686 : decode cL_law 686 = .ok (.aload_n 1, 1) := by decide +kernel
theorem dL_law_687 : decode cL_law 687 = .ok (.aload_n 0, 1) := by decide +kernel
theorem dL_law_688 : decode cL_law 688 = .ok (.iload_n 3, 1) := by decide +kernel
theorem dL_law_689 : decode cL_law 689 = .ok (.iconst 1, 1) := by decide +kernel
theorem dL_law_690 : decode cL_law 690 = .ok (.iadd, 1) := by decide +kernel
theorem dL_law_691 : decode cL_law 691 = .ok (.iaload, 1) := by decide +kernel
theorem dL_law_692 : decode cL_law 692 = .ok (.invokevirtual 93, 3) := by decide +kernel
theorem dL_law_695 : decode cL_law 695 = .ok (.aload_n 2, 1) := by decide +kernel
theorem dL_law_696 : decode cL_law 696 = .ok (.aload_n 0, 1) := by decide +kernel
theorem dL_law_697 : decode cL_law 697 = .ok (.iload_n 3, 1) := by decide +kernel
theorem dL_law_698 : decode cL_law 698 = .ok (.iconst 1, 1) := by decide +kernel
theorem dL_law_699 : decode cL_law 699 = .ok (.iadd, 1) := by decide +kernel
theorem dL_law_700 : decode cL_law 700 = .ok (.iaload, 1) := by decide +kernel
theorem dL_law_701 : decode cL_law 701 = .ok (.invokevirtual 96, 3) := by decide +kernel
theorem dL_law_704 : decode cL_law 704 = .ok (.lcmp, 1) := by decide +kernel
theorem dL_law_705 : decode cL_law 705 = .ok (.ifCond .eq 97, 3) := by decide +kernel
theorem dL_law_708 : decode cL_law 708 = .ok (.iconst 0, 1) := by decide +kernel
theorem dL_law_709 : decode cL_law 709 = .ok (.ireturn, 1) := by decide +kernel
theorem dL_law_710 : decode cL_law 710 = .ok (.aload_n 1, 1) := by decide +kernel
theorem dL_law_711 : decode cL_law 711 = .ok (.aload_n 0, 1) := by decide +kernel
theorem dL_law_712 : decode cL_law 712 = .ok (.iload_n 3, 1) := by decide +kernel
theorem dL_law_713 : decode cL_law 713 = .ok (.iconst 1, 1) := by decide +kernel
theorem dL_law_714 : decode cL_law 714 = .ok (.iadd, 1) := by decide +kernel
theorem dL_law_715 : decode cL_law 715 = .ok (.iaload, 1) := by decide +kernel
theorem dL_law_716 : decode cL_law 716 = .ok (.invokevirtual 97, 3) := by decide +kernel
theorem dL_law_719 : decode cL_law 719 = .ok (.aload_n 2, 1) := by decide +kernel
theorem dL_law_720 : decode cL_law 720 = .ok (.aload_n 0, 1) := by decide +kernel
theorem dL_law_721 : decode cL_law 721 = .ok (.iload_n 3, 1) := by decide +kernel
theorem dL_law_722 : decode cL_law 722 = .ok (.iconst 1, 1) := by decide +kernel
theorem dL_law_723 : decode cL_law 723 = .ok (.iadd, 1) := by decide +kernel
theorem dL_law_724 : decode cL_law 724 = .ok (.iaload, 1) := by decide +kernel
theorem dL_law_725 : decode cL_law 725 = .ok (.invokevirtual 100, 3) := by decide +kernel
theorem dL_law_728 : decode cL_law 728 = .ok (.if_icmp .eq 74, 3) := by decide +kernel
theorem dL_law_731 : decode cL_law 731 = .ok (.iconst 0, 1) := by decide +kernel
theorem dL_law_732 : decode cL_law 732 = .ok (.ireturn, 1) := by decide +kernel
theorem dL_law_733 : decode cL_law 733 = .ok (.aload_n 1, 1) := by decide +kernel
theorem dL_law_734 : decode cL_law 734 = .ok (.aload_n 0, 1) := by decide +kernel
theorem dL_law_735 : decode cL_law 735 = .ok (.iload_n 3, 1) := by decide +kernel
theorem dL_law_736 : decode cL_law 736 = .ok (.iconst 1, 1) := by decide +kernel
theorem dL_law_737 : decode cL_law 737 = .ok (.iadd, 1) := by decide +kernel
theorem dL_law_738 : decode cL_law 738 = .ok (.iaload, 1) := by decide +kernel
theorem dL_law_739 : decode cL_law 739 = .ok (.invokevirtual 101, 3) := by decide +kernel
theorem dL_law_742 : decode cL_law 742 = .ok (.aload_n 2, 1) := by decide +kernel
theorem dL_law_743 : decode cL_law 743 = .ok (.aload_n 0, 1) := by decide +kernel
theorem dL_law_744 : decode cL_law 744 = .ok (.iload_n 3, 1) := by decide +kernel
theorem dL_law_745 : decode cL_law 745 = .ok (.iconst 1, 1) := by decide +kernel
theorem dL_law_746 : decode cL_law 746 = .ok (.iadd, 1) := by decide +kernel
theorem dL_law_747 : decode cL_law 747 = .ok (.iaload, 1) := by decide +kernel
theorem dL_law_748 : decode cL_law 748 = .ok (.invokevirtual 104, 3) := by decide +kernel
theorem dL_law_751 : decode cL_law 751 = .ok (.if_icmp .eq 51, 3) := by decide +kernel
theorem dL_law_754 : decode cL_law 754 = .ok (.iconst 0, 1) := by decide +kernel
theorem dL_law_755 : decode cL_law 755 = .ok (.ireturn, 1) := by decide +kernel
theorem dL_law_756 : decode cL_law 756 = .ok (.aload_n 1, 1) := by decide +kernel
theorem dL_law_757 : decode cL_law 757 = .ok (.aload_n 0, 1) := by decide +kernel
theorem dL_law_758 : decode cL_law 758 = .ok (.iload_n 3, 1) := by decide +kernel
theorem dL_law_759 : decode cL_law 759 = .ok (.iconst 1, 1) := by decide +kernel
theorem dL_law_760 : decode cL_law 760 = .ok (.iadd, 1) := by decide +kernel
theorem dL_law_761 : decode cL_law 761 = .ok (.iaload, 1) := by decide +kernel
theorem dL_law_762 : decode cL_law 762 = .ok (.invokevirtual 105, 3) := by decide +kernel
theorem dL_law_765 : decode cL_law 765 = .ok (.aload_n 2, 1) := by decide +kernel
theorem dL_law_766 : decode cL_law 766 = .ok (.aload_n 0, 1) := by decide +kernel
theorem dL_law_767 : decode cL_law 767 = .ok (.iload_n 3, 1) := by decide +kernel
theorem dL_law_768 : decode cL_law 768 = .ok (.iconst 1, 1) := by decide +kernel
theorem dL_law_769 : decode cL_law 769 = .ok (.iadd, 1) := by decide +kernel
theorem dL_law_770 : decode cL_law 770 = .ok (.iaload, 1) := by decide +kernel
theorem dL_law_771 : decode cL_law 771 = .ok (.invokevirtual 108, 3) := by decide +kernel
theorem dL_law_774 : decode cL_law 774 = .ok (.if_icmp .eq 28, 3) := by decide +kernel
theorem dL_law_777 : decode cL_law 777 = .ok (.iconst 0, 1) := by decide +kernel
theorem dL_law_778 : decode cL_law 778 = .ok (.ireturn, 1) := by decide +kernel
theorem dL_law_779 : decode cL_law 779 = .ok (.aload_n 1, 1) := by decide +kernel
theorem dL_law_780 : decode cL_law 780 = .ok (.aload_n 0, 1) := by decide +kernel
theorem dL_law_781 : decode cL_law 781 = .ok (.iload_n 3, 1) := by decide +kernel
theorem dL_law_782 : decode cL_law 782 = .ok (.iconst 1, 1) := by decide +kernel
theorem dL_law_783 : decode cL_law 783 = .ok (.iadd, 1) := by decide +kernel
theorem dL_law_784 : decode cL_law 784 = .ok (.iaload, 1) := by decide +kernel
theorem dL_law_785 : decode cL_law 785 = .ok (.invokevirtual 109, 3) := by decide +kernel
theorem dL_law_788 : decode cL_law 788 = .ok (.aload_n 2, 1) := by decide +kernel
theorem dL_law_789 : decode cL_law 789 = .ok (.aload_n 0, 1) := by decide +kernel
theorem dL_law_790 : decode cL_law 790 = .ok (.iload_n 3, 1) := by decide +kernel
theorem dL_law_791 : decode cL_law 791 = .ok (.iconst 1, 1) := by decide +kernel
theorem dL_law_792 : decode cL_law 792 = .ok (.iadd, 1) := by decide +kernel
theorem dL_law_793 : decode cL_law 793 = .ok (.iaload, 1) := by decide +kernel
theorem dL_law_794 : decode cL_law 794 = .ok (.invokevirtual 112, 3) := by decide +kernel
theorem dL_law_797 : decode cL_law 797 = .ok (.if_icmp .eq 5, 3) := by decide +kernel
theorem dL_law_800 : decode cL_law 800 = .ok (.iconst 0, 1) := by decide +kernel
theorem dL_law_801 : decode cL_law 801 = .ok (.ireturn, 1) := by decide +kernel
theorem dL_law_802 : decode cL_law 802 = .ok (.iinc 3 6, 3) := by decide +kernel
theorem dL_law_805 : decode cL_law 805 = .ok (.goto (-787), 3) := by decide +kernel
theorem dL_law_808 : decode cL_law 808 = .ok (.iconst 1, 1) := by decide +kernel
theorem dL_law_809 : decode cL_law 809 = .ok (.ireturn, 1) := by decide +kernel
end
section
/-! ===== THE MEMORY of the class, the reference and the law: cells by their number in the order of making ===== -/
abbrev ga_C : Type := (Nat × Nat × ((Nat → Int32) ⊕ (Nat → Int64) ⊕ (Nat → Option Nat))) ⊕ (Nat × List Value)
abbrev ga_M : Type := Nat × List ga_C × List ga_C × (Nat → ga_C)
abbrev ga_E : Type := Nat × (Nat → Nat) × va_G × (Nat → ClassId) × (Nat → Nat)
abbrev ga_i (n : Nat) (f : Nat → Int32) : ga_C := .inl (0, n, .inl f)
abbrev ga_l (n : Nat) (f : Nat → Int64) : ga_C := .inl (1, n, .inr (.inl f))
abbrev ga_z (n : Nat) (f : Nat → Int32) : ga_C := .inl (2, n, .inl f)
abbrev ga_r (t n : Nat) (f : Nat → Option Nat) : ga_C := .inl (t, n, .inr (.inr f))
abbrev ga_o (c : Nat) (fs : List Value) : ga_C := .inr (c, fs)
def ga_nth : List ga_C → Nat → ga_C
  | [], _ => .inr (0, [])
  | c :: _, 0 => c
  | _ :: t, n + 1 => ga_nth t n
def ga_set : List ga_C → Nat → ga_C → List ga_C
  | [], _, _ => []
  | _ :: t, 0, c => c :: t
  | d :: t, n + 1, c => d :: ga_set t n c
theorem ga_set_len : ∀ (L : List ga_C) (a : Nat) (c : ga_C), (ga_set L a c).length = L.length
  | [], _, _ => rfl
  | _ :: _, 0, _ => rfl
  | _ :: t, n + 1, c => by simp [ga_set, ga_set_len t n c]
theorem ga_nth_same : ∀ (L : List ga_C) (a : Nat) (c : ga_C), a < L.length → ga_nth (ga_set L a c) a = c
  | [], _, _, h => absurd h (Nat.not_lt_zero _)
  | _ :: _, 0, _, _ => rfl
  | _ :: t, n + 1, c, h => ga_nth_same t n c (Nat.lt_of_succ_lt_succ h)
theorem ga_nth_ne : ∀ (L : List ga_C) (a b : Nat) (c : ga_C), b ≠ a → ga_nth (ga_set L a c) b = ga_nth L b
  | [], _, _, _, _ => rfl
  | _ :: _, 0, 0, _, h => absurd rfl h
  | _ :: _, 0, _ + 1, _, _ => rfl
  | _ :: _, _ + 1, 0, _, _ => rfl
  | _ :: t, n + 1, k + 1, c, h => ga_nth_ne t n k c (fun e => h (by rw [e]))
def ga_get (M : ga_M) (a : Nat) : ga_C := cond (Nat.blt a 31) (ga_nth M.2.1 a) (cond (Nat.blt a 79) (M.2.2.2 a) (cond (Nat.blt a 106) (ga_nth M.2.2.1 (a - 79)) (M.2.2.2 a)))
def ga_put (M : ga_M) (a : Nat) (c : ga_C) : ga_M := cond (Nat.blt a 31) (M.1, ga_set M.2.1 a c, M.2.2.1, M.2.2.2) (cond (Nat.blt a 79) (M.1, M.2.1, M.2.2.1, va_up M.2.2.2 a c) (cond (Nat.blt a 106) (M.1, M.2.1, ga_set M.2.2.1 (a - 79) c, M.2.2.2) (M.1, M.2.1, M.2.2.1, va_up M.2.2.2 a c)))
theorem ga_blt (a b : Nat) : Nat.blt a b = decide (a < b) := by
  by_cases h : a < b
  · rw [decide_eq_true h]; exact Nat.blt_eq.mpr h
  · rw [decide_eq_false h]
    cases hb : Nat.blt a b
    · rfl
    · exact absurd (Nat.blt_eq.mp hb) h
theorem ga_get_lo (M : ga_M) {a : Nat} (h : a < 31) : ga_get M a = ga_nth M.2.1 a := by unfold ga_get; rw [ga_blt, decide_eq_true h]; rfl
theorem ga_get_mid (M : ga_M) {a : Nat} (h : 79 ≤ a) (h2 : a < 106) : ga_get M a = ga_nth M.2.2.1 (a - 79) := by
  unfold ga_get; rw [ga_blt, ga_blt, ga_blt, decide_eq_false (by omega), decide_eq_false (by omega), decide_eq_true h2]; rfl
theorem ga_get_hi (M : ga_M) {a : Nat} (h : 31 ≤ a ∧ a < 79 ∨ 106 ≤ a) : ga_get M a = M.2.2.2 a := by
  unfold ga_get; rw [ga_blt, ga_blt, ga_blt]
  rcases h with h | h
  · rw [decide_eq_false (by omega), decide_eq_true (by omega)]; rfl
  · rw [decide_eq_false (by omega), decide_eq_false (by omega), decide_eq_false (by omega)]; rfl
theorem ga_put_lo (M : ga_M) {a : Nat} (c : ga_C) (h : a < 31) : ga_put M a c = (M.1, ga_set M.2.1 a c, M.2.2.1, M.2.2.2) := by unfold ga_put; rw [ga_blt, decide_eq_true h]; rfl
theorem ga_put_mid (M : ga_M) {a : Nat} (c : ga_C) (h : 79 ≤ a) (h2 : a < 106) : ga_put M a c = (M.1, M.2.1, ga_set M.2.2.1 (a - 79) c, M.2.2.2) := by
  unfold ga_put; rw [ga_blt, ga_blt, ga_blt, decide_eq_false (by omega), decide_eq_false (by omega), decide_eq_true h2]; rfl
theorem ga_put_hi (M : ga_M) {a : Nat} (c : ga_C) (h : 31 ≤ a ∧ a < 79 ∨ 106 ≤ a) : ga_put M a c = (M.1, M.2.1, M.2.2.1, va_up M.2.2.2 a c) := by
  unfold ga_put; rw [ga_blt, ga_blt, ga_blt]
  rcases h with h | h
  · rw [decide_eq_false (by omega), decide_eq_true (by omega)]; rfl
  · rw [decide_eq_false (by omega), decide_eq_false (by omega), decide_eq_false (by omega)]; rfl
theorem ga_put_1 (M : ga_M) (a : Nat) (c : ga_C) : (ga_put M a c).1 = M.1 := by
  unfold ga_put
  cases Nat.blt a 31 <;> cases Nat.blt a 79 <;> cases Nat.blt a 106 <;> rfl
theorem ga_put_len (M : ga_M) (a : Nat) (c : ga_C) : (ga_put M a c).2.1.length = M.2.1.length ∧ (ga_put M a c).2.2.1.length = M.2.2.1.length := by
  unfold ga_put
  cases Nat.blt a 31 <;> cases Nat.blt a 79 <;> cases Nat.blt a 106 <;> simp [ga_set_len]
theorem ga_reg (a : Nat) : a < 31 ∨ (79 ≤ a ∧ a < 106) ∨ (31 ≤ a ∧ a < 79 ∨ 106 ≤ a) := by omega
theorem ga_get_put (M : ga_M) (a : Nat) (c : ga_C) (h1 : M.2.1.length = 31) (h2 : M.2.2.1.length = 27) : ga_get (ga_put M a c) a = c := by
  rcases ga_reg a with h | ⟨h, h'⟩ | h
  · rw [ga_put_lo M c h, ga_get_lo _ h]; exact ga_nth_same _ _ _ (by omega)
  · rw [ga_put_mid M c h h', ga_get_mid _ h h']; exact ga_nth_same _ _ _ (by omega)
  · rw [ga_put_hi M c h, ga_get_hi _ h]; simp [va_up]
theorem ga_get_put_ne (M : ga_M) (a b : Nat) (c : ga_C) (hne : b ≠ a) : ga_get (ga_put M a c) b = ga_get M b := by
  rcases ga_reg a with h | ⟨h, h'⟩ | h
  · rw [ga_put_lo M c h]
    rcases ga_reg b with g | ⟨g, g'⟩ | g
    · rw [ga_get_lo _ g, ga_get_lo _ g]; exact ga_nth_ne _ _ _ _ hne
    · rw [ga_get_mid _ g g', ga_get_mid _ g g']
    · rw [ga_get_hi _ g, ga_get_hi _ g]
  · rw [ga_put_mid M c h h']
    rcases ga_reg b with g | ⟨g, g'⟩ | g
    · rw [ga_get_lo _ g, ga_get_lo _ g]
    · rw [ga_get_mid _ g g', ga_get_mid _ g g']; exact ga_nth_ne _ _ _ _ (by omega)
    · rw [ga_get_hi _ g, ga_get_hi _ g]
  · rw [ga_put_hi M c h]
    rcases ga_reg b with g | ⟨g, g'⟩ | g
    · rw [ga_get_lo _ g, ga_get_lo _ g]
    · rw [ga_get_mid _ g g', ga_get_mid _ g g']
    · rw [ga_get_hi _ g, ga_get_hi _ g]; simp [va_up, hne]
/-! values and cells as the machine has them: E = (base, address of a number, classes, array classes, addresses outside) -/
def ga_v (E : ga_E) (v : Value) : Value := match v with
  | .ref a => .ref (E.2.1 a)
  | .retAddr k => .ref (E.2.2.2.2 k)
  | w => w
def ga_e (E : ga_E) (c : ga_C) : va_E := match c with
  | .inl (t, n, .inl f) => .inl (E.2.2.2.1 t, n, .inl f)
  | .inl (t, n, .inr (.inl f)) => .inl (E.2.2.2.1 t, n, .inr (.inl f))
  | .inl (t, n, .inr (.inr f)) => .inl (E.2.2.2.1 t, n, .inr (.inr (.inr (.inr (fun j => (f j).map E.2.1)))))
  | .inr (k, fs) => .inr (k, fs.map (ga_v E))
theorem ga_v_cat (E : ga_E) (v : Value) : (ga_v E v).category = v.category := by cases v <;> rfl
def ga_R (E : ga_E) (M : ga_M) (H : Heap) : Prop := H.size = E.1 + M.1 ∧ M.2.1.length = 31 ∧ M.2.2.1.length = 27 ∧ ∀ a, a < M.1 → va_at E.2.2.1 vwCl (E.2.1 a, ga_e E (ga_get M a)) H
def ga_V (E : ga_E) : Prop := (∀ a b, E.2.1 a = E.2.1 b → a = b) ∧ ∀ a, E.1 ≤ E.2.1 a
theorem ga_R.put {E : ga_E} {M : ga_M} {H H1 : Heap} {a : Nat} {c : ga_C} (h : ga_R E M H) (hV : ga_V E) (ha : a < M.1) (z : H1.size = H.size) (oq : ∀ q : Nat, q ≠ E.2.1 a → H1[q]? = H[q]?) (hc : va_at E.2.2.1 vwCl (E.2.1 a, ga_e E c) H1) : ga_R E (ga_put M a c) H1 := by
  obtain ⟨h1, h2, h3, h4⟩ := h
  refine ⟨by rw [z, h1, ga_put_1], by rw [(ga_put_len M a c).1]; exact h2, by rw [(ga_put_len M a c).2]; exact h3, fun b hb => ?_⟩
  rw [ga_put_1] at hb
  by_cases e : b = a
  · subst e
    rw [ga_get_put M b c h2 h3]
    exact hc
  · rw [ga_get_put_ne M a b c e]
    exact (h4 b hb).kept (oq _ (fun q => e (hV.1 _ _ q)))
/-- a cell more, behind all others -/
def ga_new (M : ga_M) (c : ga_C) : ga_M := ga_put (M.1 + 1, M.2) M.1 c
theorem ga_R.new {E : ga_E} {M : ga_M} {H H1 : Heap} {c : ga_C} (h : ga_R E M H) (hV : ga_V E) (hid : E.2.1 M.1 = E.1 + M.1) (z : H1.size = H.size + 1) (oq : ∀ q : Nat, q < H.size → H1[q]? = H[q]?) (hc : va_at E.2.2.1 vwCl (H.size, ga_e E c) H1) : ga_R E (ga_new M c) H1 := by
  obtain ⟨h1, h2, h3, h4⟩ := h
  unfold ga_new
  refine ⟨by rw [z, h1, ga_put_1]; exact Nat.add_assoc _ _ _, by rw [(ga_put_len _ _ c).1]; exact h2, by rw [(ga_put_len _ _ c).2]; exact h3, fun b hb => ?_⟩
  rw [ga_put_1] at hb
  by_cases e : b = M.1
  · subst e
    rw [ga_get_put (M.1 + 1, M.2) M.1 c h2 h3, hid, ← h1]
    exact hc
  · rw [ga_get_put_ne _ _ b c e]
    have hb' : b < M.1 := by have : b < M.1 + 1 := hb; omega
    exact (h4 b hb').kept (oq _ (h4 b hb').lt)
/-! ===== what is known of the machine in a method: the tables' words that stay, the classes, the nest's links ===== -/
def ga_T : List Cond := lw_tbl.filter goodWord
theorem ga_in {w : Cond} (h : w ∈ lw_tbl) (g : goodWord w = true) : w ∈ ga_T := List.mem_filter.mpr ⟨h, g⟩
theorem ga_good (big : List Cond) (hb : ∀ w ∈ ga_T, w ∈ big) : GoodIn big ga_T := fun w h => ⟨hb w h, good_of_word (List.mem_filter.mp h).2⟩
def ga_nest : List (String × Nat × MethodName × String) := [("ThreeDays", 9, ⟨"ThreeDays$Tape", "<init>", "()V"⟩, "ThreeDays"), ("ThreeDays", 18, ⟨"ThreeDays$Riders", "<init>", "()V"⟩, "ThreeDays"), ("ThreeDays", 25, ⟨"ThreeDays$Course", "<init>", "()V"⟩, "ThreeDays"), ("ThreeDays", 32, ⟨"ThreeDays$Log", "<init>", "()V"⟩, "ThreeDays"), ("ThreeDays", 48, ⟨"ThreeDays$Rules", "<init>", "()V"⟩, "ThreeDays"), ("ThreeDays$Board", 40, ⟨"ThreeDays$Sheet", "<init>", "()V"⟩, "ThreeDays"), ("ThreeDays$Tape", 17, ⟨"ThreeDays", "isWithin", "(III)Z"⟩, "ThreeDays"), ("ThreeDays$Riders", 22, ⟨"ThreeDays", "isWithin", "(III)Z"⟩, "ThreeDays"), ("ThreeDays$Course", 25, ⟨"ThreeDays", "isWithin", "(III)Z"⟩, "ThreeDays"), ("ThreeDays$Board", 87, ⟨"ThreeDays", "isWithin", "(III)Z"⟩, "ThreeDays"), ("ThreeDays$Log", 29, ⟨"ThreeDays", "isWithin", "(III)Z"⟩, "ThreeDays"), ("ThreeDays$Tally", 109, ⟨"ThreeDays", "isWithin", "(III)Z"⟩, "ThreeDays"), ("ThreeDays$Sheet", 38, ⟨"ThreeDays", "isWithin", "(III)Z"⟩, "ThreeDays")]
def ga_ty (E : ga_E) : List (ClassId × FieldType) := [(E.2.2.2.1 0, .int), (E.2.2.2.1 1, .long), (E.2.2.2.1 2, .boolean), (E.2.2.2.1 3, .object "ThreeDays$Sheet"), (E.2.2.2.1 4, .object "ThreeDays$Act")]
def ga_K (E : ga_E) (U : State) : Prop := va_K E.2.2.1 vwCl (ga_ty E) U ∧ (∀ q ∈ ga_nest, va_Nw (.methodLinkNest q.1 q.2.1 q.2.2.1 q.2.2.2) U) ∧ va_AO "ThreeDays$Sheet" U ∧ va_AO "ThreeDays$Act" U
theorem ga_K.moved {E : ga_E} {s U : State} (hW : s.WarmedH U.vm) (h : ga_K E s) : ga_K E U :=
  ⟨va_K.moved hW.alike h.1, fun q hq => va_Nw.warmM hW (h.2.1 q hq), h.2.2.1.moved hW.alike, h.2.2.2.moved hW.alike⟩
theorem ga_K.same {E : ga_E} {s U : State} (hv : s.vm = U.vm) (h : ga_K E s) : ga_K E U :=
  ⟨va_K.moved (by rw [hv]; exact Vm.Alike.refl U.vm) h.1, fun q hq => va_Nw.same rfl hv (h.2.1 q hq), h.2.2.1.moved (by rw [hv]; exact Vm.Alike.refl U.vm), h.2.2.2.moved (by rw [hv]; exact Vm.Alike.refl U.vm)⟩
abbrev ga_X : Type := Program × Launch × Env × Room × State × MethodId × Array Value × List Frame × Method × Code × (State → Prop)
def ga_W (X : ga_X) (H : Heap) (locs : List Loc) (kc ks : Nat) (g : JFrame) : Prop :=
  W X.1 X.2.1 X.2.2.1 X.2.2.2.1 X.2.2.2.2.1 X.2.2.2.2.2.1 X.2.2.2.2.2.2.1 X.2.2.2.2.2.2.2.1 X.2.2.2.2.2.2.2.2.1 X.2.2.2.2.2.2.2.2.2.1 H locs kc ks X.2.2.2.2.2.2.2.2.2.2 g
/-- the locals that are known, by their places -/
def ga_lv (E : ga_E) : Nat → List (Option Value) → List (Nat × Value)
  | _, [] => []
  | i, none :: t => ga_lv E (i + 1) t
  | i, some v :: t => (i, ga_v E v) :: ga_lv E (i + 1) t
def ga_lk : List (Option Value) → Nat → Option Value
  | [], _ => none
  | o :: _, 0 => o
  | _ :: t, n + 1 => ga_lk t n
theorem ga_lv_mem (E : ga_E) : ∀ (lv : List (Option Value)) (k : Nat) (q : Nat × Value), q ∈ ga_lv E k lv ↔ ∃ j w, ga_lk lv j = some w ∧ q = (k + j, ga_v E w)
  | [], k, q => by simp [ga_lv, ga_lk]
  | none :: t, k, q => by
    rw [ga_lv, ga_lv_mem E t (k + 1) q]
    constructor
    · rintro ⟨j, w, h, e⟩
      exact ⟨j + 1, w, h, by rw [e]; congr 1; omega⟩
    · rintro ⟨j, w, h, e⟩
      cases j with
      | zero => simp [ga_lk] at h
      | succ j => exact ⟨j, w, h, by rw [e]; congr 1; omega⟩
  | some v :: t, k, q => by
    rw [ga_lv, List.mem_cons, ga_lv_mem E t (k + 1) q]
    constructor
    · rintro (e | ⟨j, w, h, e⟩)
      · exact ⟨0, v, rfl, e⟩
      · exact ⟨j + 1, w, h, by rw [e]; congr 1; omega⟩
    · rintro ⟨j, w, h, e⟩
      cases j with
      | zero => left; simp [ga_lk] at h; subst h; exact e
      | succ j => right; exact ⟨j, w, h, by rw [e]; congr 1; omega⟩
theorem ga_rd {E : ga_E} {ls : Array Slot} {nL i : Nat} {lv : List (Option Value)} {v : Value} (h : lv_has ls nL (ga_lv E 0 lv)) (hl : ga_lk lv i = some v) : ls[i]? = some (.val (ga_v E v)) :=
  h.2.2 (i, ga_v E v) ((ga_lv_mem E lv 0 _).mpr ⟨i, v, hl, by rw [Nat.zero_add]⟩)
theorem ga_less {E : ga_E} {ls : Array Slot} {nL : Nat} {l : List (Nat × Value)} {lv' : List (Option Value)} (h : lv_has ls nL l) (hs : ∀ j w, ga_lk lv' j = some w → (j, ga_v E w) ∈ l) : lv_has ls nL (ga_lv E 0 lv') := by
  refine ⟨h.1, h.2.1, fun q hq => ?_⟩
  obtain ⟨j, w, h1, rfl⟩ := (ga_lv_mem E lv' 0 q).mp hq
  rw [Nat.zero_add]
  exact h.2.2 _ (hs j w h1)
/-- a known local forgotten, or kept -/
def ga_sb : List (Option Value) → List (Option Value) → Prop
  | [], _ => True
  | none :: t, [] => ga_sb t []
  | none :: t, _ :: u => ga_sb t u
  | some _ :: _, [] => False
  | some v :: t, o :: u => o = some v ∧ ga_sb t u
theorem ga_sb_lk : ∀ {lv' lv : List (Option Value)}, ga_sb lv' lv → ∀ j w, ga_lk lv' j = some w → ga_lk lv j = some w
  | [], _, _, j, w, h => by simp [ga_lk] at h
  | none :: t, [], hs, j, w, h => by
    cases j with
    | zero => simp [ga_lk] at h
    | succ j => have := ga_sb_lk (lv' := t) (lv := []) hs j w h; simp [ga_lk] at this
  | none :: t, _ :: u, hs, j, w, h => by
    cases j with
    | zero => simp [ga_lk] at h
    | succ j => exact ga_sb_lk (lv' := t) (lv := u) hs j w h
  | some _ :: _, [], hs, _, _, _ => hs.elim
  | some v :: t, o :: u, hs, j, w, h => by
    cases j with
    | zero => rw [show ga_lk (o :: u) 0 = o from rfl, hs.1]; exact h
    | succ j => exact ga_sb_lk (lv' := t) (lv := u) hs.2 j w h
def ga_kl (o : Option Value) : Option Value := match o with
  | some (.long _) => none
  | some (.double _) => none
  | o => o
/-- storing at a place: a value of one slot; of two -/
def ga_s1 : List (Option Value) → Nat → Value → List (Option Value)
  | [], _, _ => []
  | _ :: t, 0, v => some v :: t
  | o :: t, 1, v => ga_kl o :: ga_s1 t 0 v
  | o :: t, n + 2, v => o :: ga_s1 t (n + 1) v
def ga_hd : List (Option Value) → List (Option Value)
  | [] => []
  | _ :: t => none :: t
def ga_s2 : List (Option Value) → Nat → Value → List (Option Value)
  | [], _, _ => []
  | _ :: t, 0, v => some v :: ga_hd t
  | o :: t, 1, v => ga_kl o :: ga_s2 t 0 v
  | o :: t, n + 2, v => o :: ga_s2 t (n + 1) v
theorem ga_kl_c {o : Option Value} {w : Value} (h : ga_kl o = some w) : o = some w ∧ w.category ≠ 2 := by
  cases o with
  | none => simp [ga_kl] at h
  | some x => cases x <;> simp [ga_kl] at h <;> subst h <;> exact ⟨rfl, by simp [Value.category]⟩
theorem ga_s1_lk : ∀ (lv : List (Option Value)) (i : Nat) (v : Value) (j : Nat) (w : Value), ga_lk (ga_s1 lv i v) j = some w → (j = i ∧ w = v) ∨ (j ≠ i ∧ ga_lk lv j = some w ∧ ¬ (j + 1 = i ∧ w.category = 2))
  | [], i, v, j, w, h => by simp [ga_s1, ga_lk] at h
  | o :: t, 0, v, j, w, h => by
    cases j with
    | zero => left; simp [ga_s1, ga_lk] at h; exact ⟨rfl, h.symm⟩
    | succ j => right; exact ⟨by omega, h, by omega⟩
  | o :: t, 1, v, j, w, h => by
    cases j with
    | zero =>
      right
      have h1 := ga_kl_c (show ga_kl o = some w from h)
      exact ⟨by omega, h1.1, fun e => h1.2 e.2⟩
    | succ j =>
      rcases ga_s1_lk t 0 v j w h with ⟨a, b⟩ | ⟨a, b, c⟩
      · left; exact ⟨by omega, b⟩
      · right; exact ⟨by omega, b, by omega⟩
  | o :: t, n + 2, v, j, w, h => by
    cases j with
    | zero => right; exact ⟨by omega, h, by omega⟩
    | succ j =>
      rcases ga_s1_lk t (n + 1) v j w h with ⟨a, b⟩ | ⟨a, b, c⟩
      · left; exact ⟨by omega, b⟩
      · right; exact ⟨by omega, b, fun e => c ⟨by omega, e.2⟩⟩
theorem ga_s2_lk : ∀ (lv : List (Option Value)) (i : Nat) (v : Value) (j : Nat) (w : Value), ga_lk (ga_s2 lv i v) j = some w → (j = i ∧ w = v) ∨ (j ≠ i ∧ j ≠ i + 1 ∧ ga_lk lv j = some w ∧ ¬ (j + 1 = i ∧ w.category = 2))
  | [], i, v, j, w, h => by simp [ga_s2, ga_lk] at h
  | o :: t, 0, v, j, w, h => by
    match t, j, h with
    | t, 0, h => left; simp [ga_s2, ga_lk] at h; exact ⟨rfl, h.symm⟩
    | [], j + 1, h => simp [ga_s2, ga_hd, ga_lk] at h
    | _ :: _, 1, h => simp [ga_s2, ga_hd, ga_lk] at h
    | _ :: _, j + 2, h => right; exact ⟨by omega, by omega, h, by omega⟩
  | o :: t, 1, v, j, w, h => by
    cases j with
    | zero =>
      right
      have h1 := ga_kl_c (show ga_kl o = some w from h)
      exact ⟨by omega, by omega, h1.1, fun e => h1.2 e.2⟩
    | succ j =>
      rcases ga_s2_lk t 0 v j w h with ⟨a, b⟩ | ⟨a, a2, b, c⟩
      · left; exact ⟨by omega, b⟩
      · right; exact ⟨by omega, by omega, b, by omega⟩
  | o :: t, n + 2, v, j, w, h => by
    cases j with
    | zero => right; exact ⟨by omega, by omega, h, by omega⟩
    | succ j =>
      rcases ga_s2_lk t (n + 1) v j w h with ⟨a, b⟩ | ⟨a, a2, b, c⟩
      · left; exact ⟨by omega, b⟩
      · right; exact ⟨by omega, by omega, b, fun e => c ⟨by omega, e.2⟩⟩
theorem ga_h1 {E : ga_E} {ls : Array Slot} {nL i : Nat} {lv : List (Option Value)} {v : Value} (h : lv_has ls nL ((i, ga_v E v) :: (ga_lv E 0 lv).filter (fun q => !(q.1 == i) && !(q.1 + 1 == i && q.2.category == 2)))) : lv_has ls nL (ga_lv E 0 (ga_s1 lv i v)) := by
  refine ga_less h (fun j w hj => ?_)
  rcases ga_s1_lk lv i v j w hj with ⟨a, b⟩ | ⟨a, b, c⟩
  · rw [a, b]; exact List.mem_cons_self
  · refine List.mem_cons_of_mem _ (List.mem_filter.mpr ⟨(ga_lv_mem E lv 0 _).mpr ⟨j, w, b, by rw [Nat.zero_add]⟩, ?_⟩)
    simp only [ga_v_cat]
    simp [a]
    exact Decidable.not_and_iff_or_not.mp c
theorem ga_h2 {E : ga_E} {ls : Array Slot} {nL i : Nat} {lv : List (Option Value)} {v : Value} (h : lv_has ls nL ((i, ga_v E v) :: (ga_lv E 0 lv).filter (fun q => !(q.1 == i) && (!(q.1 == i + 1) && !(q.1 + 1 == i && q.2.category == 2))))) : lv_has ls nL (ga_lv E 0 (ga_s2 lv i v)) := by
  refine ga_less h (fun j w hj => ?_)
  rcases ga_s2_lk lv i v j w hj with ⟨a, b⟩ | ⟨a, a2, b, c⟩
  · rw [a, b]; exact List.mem_cons_self
  · refine List.mem_cons_of_mem _ (List.mem_filter.mpr ⟨(ga_lv_mem E lv 0 _).mpr ⟨j, w, b, by rw [Nat.zero_add]⟩, ?_⟩)
    simp only [ga_v_cat]
    simp [a, a2]
    exact Decidable.not_and_iff_or_not.mp c
/-- THE JUDGEMENT: the machine, at pc with these locals and this stack, over this memory, comes to the end that X asks for -/
def ga_G (E : ga_E) (X : ga_X) (kc ks pc : Nat) (lv : List (Option Value)) (st : List Value) (M : ga_M) : Prop :=
  ∀ (H : Heap) (locs : List Loc) (ls : Array Slot), ga_R E M H → lv_has ls X.2.2.2.2.2.2.2.2.2.1.maxLocals (ga_lv E 0 lv) → va_S (fun q => E.1 ≤ q) X.2.2.2.2.1.heap H locs → ga_W X H locs kc ks (F0 X.2.2.2.2.2.1 pc ls (st.map (ga_v E)))
/-- the method that runs -/
def ga_B (E : ga_E) (d : Nat) (y : MethodName) (cc : ByteArray) (nL mc ms : Nat) (X : ga_X) : Prop :=
  X.1.tables.exec = Jvm.exec ∧ X.2.2.2.2.2.2.2.2.2.1.code = cc ∧ X.2.2.2.2.2.2.2.2.2.1.maxLocals = nL ∧ X.2.2.2.2.1.vm.findClass y.cls = some X.2.2.2.2.2.1.cls ∧ (∀ w ∈ ga_T, w.before X.2.2.2.2.2.2.1 X.2.2.2.2.1 = true) ∧
  X.2.2.2.2.2.2.2.2.1.locks = false ∧ X.2.2.2.2.2.2.2.2.1.name = y.name ∧ ga_K E X.2.2.2.2.1 ∧ ga_V E ∧ d ≤ X.2.2.2.1.frames ∧ 60 * d ≤ X.2.2.2.1.locals ∧ mc ≤ X.2.2.2.1.cells ∧ ms ≤ X.2.2.2.1.slots
def ga_Q (E : ga_E) (Post : Option Value → ga_M → Prop) : Array Value → State → Outcome → State → Prop := fun _ st o t =>
  ∃ (r : Option Value) (M : ga_M), o = .returned (r.map (ga_v E)) ∧ Post r M ∧ ga_R E M t.heap ∧ va_F (fun q => E.1 ≤ q) st t
/-- and how it ends -/
def ga_P (E : ga_E) (rt : Option FieldType) (mc ms : Nat) (Post : Option Value → ga_M → Prop) (X : ga_X) : Prop :=
  X.2.2.2.2.2.2.2.2.1.sig.returnType = rt ∧ X.2.2.2.2.2.2.2.2.2.2 = MQ X.2.2.2.2.2.2.2.1 (ga_Q E Post) X.2.2.2.2.2.2.1 X.2.2.2.2.1 mc ms (fun q => E.1 ≤ q)
def ga_rm (d mc ms : Nat) : Room := { frames := d, cells := mc, slots := ms, locals := 60 * d }
def ga_Pc (E : ga_E) (as : List Value) (M : ga_M) : Array Value → State → Prop := fun v U => v = (as.map (ga_v E)).toArray ∧ ga_R E M U.heap ∧ ga_K E U ∧ ga_V E
/-- A CONTRACT: method y over memory M -/
def ga_Mt (E : ga_E) (d : Nat) (y : MethodName) (cc : ByteArray) (nL : Nat) (rt : Option FieldType) (mc ms : Nat) (as : List Value) (M : ga_M) (Post : Option Value → ga_M → Prop) : Prop :=
  ∀ l : Launch, Met l y (Cond.code y cc nL rt :: ga_T) (ga_rm d mc ms) (ga_Pc E as M) (ga_Q E Post) mc ms (fun q => E.1 ≤ q)
def ga_as : List Value → List (Option Value)
  | [] => []
  | v :: t => match v with
    | .long x => some (.long x) :: none :: ga_as t
    | .double x => some (.double x) :: none :: ga_as t
    | w => some w :: ga_as t
theorem ga_as_lk (E : ga_E) : ∀ (as : List Value) (k j : Nat) (w : Value), ga_lk (ga_as as) j = some w → (k + j, ga_v E w) ∈ lv_args k (as.map (ga_v E))
  | [], k, j, w, h => by simp [ga_as, ga_lk] at h
  | v :: t, k, j, w, h => by
    have key : ∀ {u : Value}, v = u → u.category = 1 → ga_lk (some u :: ga_as t) j = some w → (k + j, ga_v E w) ∈ lv_args k ((v :: t).map (ga_v E)) := by
      intro u e hc h
      subst e
      rw [List.map_cons, lv_args, if_neg (by rw [ga_v_cat]; omega)]
      cases j with
      | zero => simp [ga_lk] at h; subst h; exact List.mem_cons_self
      | succ j =>
        have := ga_as_lk E t (k + 1) j w h
        rw [show k + 1 + j = k + (j + 1) by omega] at this
        exact List.mem_cons_of_mem _ this
    have key2 : ∀ {u : Value}, v = u → u.category = 2 → ga_lk (some u :: none :: ga_as t) j = some w → (k + j, ga_v E w) ∈ lv_args k ((v :: t).map (ga_v E)) := by
      intro u e hc h
      subst e
      rw [List.map_cons, lv_args, if_pos (by rw [ga_v_cat]; omega)]
      match j, h with
      | 0, h => simp [ga_lk] at h; subst h; exact List.mem_cons_self
      | 1, h => simp [ga_lk] at h
      | j + 2, h =>
        have := ga_as_lk E t (k + 2) j w h
        rw [show k + 2 + j = k + (j + 2) by omega] at this
        exact List.mem_cons_of_mem _ this
    cases v with
    | long x => exact key2 rfl rfl h
    | double x => exact key2 rfl rfl h
    | int x => exact key rfl rfl h
    | float x => exact key rfl rfl h
    | null => exact key rfl rfl h
    | ref x => exact key rfl rfl h
    | retAddr x => exact key rfl rfl h
def ga_wd : List Value → Nat
  | [] => 0
  | v :: t => v.category + ga_wd t
theorem ga_sl_len (E : ga_E) : ∀ (as : List Value), (lg_sl (as.map (ga_v E))).length = ga_wd as
  | [] => rfl
  | v :: t => by
    have ih := ga_sl_len E t
    have hc : lg_sl ((v :: t).map (ga_v E)) = (if (ga_v E v).category = 2 then [Slot.val (ga_v E v), .second] else [.val (ga_v E v)]) ++ lg_sl (t.map (ga_v E)) := by simp [lg_sl]
    rw [hc, List.length_append, ih, ga_v_cat, ga_wd]
    rcases lv_cat v with h | h <;> simp [h]
set_option maxHeartbeats 4000000 in
theorem ga_Mt.of {E : ga_E} {d : Nat} {y : MethodName} {cc : ByteArray} {nL : Nat} {rt : Option FieldType} {mc ms : Nat} {as : List Value} {M : ga_M} {Post : Option Value → ga_M → Prop} (hy : plainName y.cls = true) (hw : Nat.ble (ga_wd as) nL = true)
    (body : ∀ X, ga_B E d y cc nL mc ms X → ga_P E rt mc ms Post X → ga_G E X 0 0 0 (ga_as as) [] M) : ga_Mt E d y cc nL rt mc ms as M Post := by
  intro l
  refine Met.ofW (cc := cc) (maxL := nL) (ret := rt) hy rfl ?_
  intro p e s m args below meth c s₁ B hml hv
  obtain ⟨rfl, hR, hK, hV⟩ := hv
  have hts := atoms_spec (ws := Cond.code y cc nL rt :: ga_T) B.pre
  have hwd : ga_wd as ≤ nL := Nat.le_of_ble_eq_true hw
  have hl := lv_entry (as.map (ga_v E)) (n := nL) (by rw [ga_sl_len]; exact hwd)
  rw [lg_entry_eq]
  subst hml
  exact body (p, l, e, (headSpec (Cond.code y cc c.maxLocals rt :: ga_T) (ga_rm d mc ms)).room, s, m, _, below, meth, c, MQ below (ga_Q E Post) _ s mc ms (fun q => E.1 ≤ q))
    ⟨B.exec, B.bytes, rfl, findClass_of_methodNamed B.named, fun w h => hts w (List.mem_cons_of_mem _ h), B.notSynchronized, (name_of_methodNamed B.named B.method).1, hK, hV, Nat.le_refl _, Nat.le_refl _, Nat.le_refl _, Nat.le_refl _⟩
    ⟨B.returns, rfl⟩ s.heap [] _ hR (ga_less hl (fun j w h => by have := ga_as_lk E as 0 j w h; rwa [Nat.zero_add] at this)) va_S.rf
end
section
/-! ===== THE ROWS: an instruction each, over the judgement ga_G ===== -/
theorem ga_go {E : ga_E} {X : ga_X} {kc ks pc pc' : Nat} {lv : List (Option Value)} {st st' : List Value} {M : ga_M} (h : ∀ (H : Heap) (locs : List Loc) (ls : Array Slot), ga_W X H locs kc ks (F0 X.2.2.2.2.2.1 pc' ls (st'.map (ga_v E))) → ga_W X H locs kc ks (F0 X.2.2.2.2.2.1 pc ls (st.map (ga_v E)))) (k : ga_G E X kc ks pc' lv st' M) : ga_G E X kc ks pc lv st M :=
  fun H locs ls hR hl hS => h H locs ls (k H locs ls hR hl hS)
def ga_pu : Option Value → List Value → List Value
  | none, st => st
  | some v, st => v :: st
section
variable {E : ga_E} {X : ga_X} {d nL mc ms kc ks pc nx : Nat} {y : MethodName} {cc : ByteArray} {lv : List (Option Value)} {st : List Value} {M : ga_M}
/-- known locals forgotten -/
theorem g_less (lv' : List (Option Value)) (hs : ga_sb lv' lv) (k : ga_G E X kc ks pc lv' st M) : ga_G E X kc ks pc lv st M :=
  fun H locs ls hR hl hS => k H locs ls hR (ga_less hl (fun j w h => (ga_lv_mem E lv 0 _).mpr ⟨j, w, ga_sb_lk hs j w h, by rw [Nat.zero_add]⟩)) hS
theorem g_mem {M' : ga_M} (h : M = M') (k : ga_G E X kc ks pc lv st M') : ga_G E X kc ks pc lv st M := h ▸ k
theorem g_widen {kc' ks' : Nat} (h1 : kc ≤ kc') (h2 : ks ≤ ks') (k : ga_G E X kc' ks' pc lv st M) : ga_G E X kc ks pc lv st M := fun H locs ls hR hl hS => W.widen h1 h2 (k H locs ls hR hl hS)

theorem g_iadd (hX : ga_B E d y cc nL mc ms X) {x z : Int32} (hd : decode cc pc = .ok (.iadd, 1)) (hn : pc + 1 = nx) (k : ga_G E X kc ks nx lv (.int (x + z) :: st) M) : ga_G E X kc ks pc lv (.int z :: .int x :: st) M := by
  subst hn; exact fun H locs ls hR hl hS => lv_iadd hX.1 hX.2.1 hd (k H locs ls hR hl hS)
theorem g_isub (hX : ga_B E d y cc nL mc ms X) {x z : Int32} (hd : decode cc pc = .ok (.isub, 1)) (hn : pc + 1 = nx) (k : ga_G E X kc ks nx lv (.int (x - z) :: st) M) : ga_G E X kc ks pc lv (.int z :: .int x :: st) M := by
  subst hn; exact fun H locs ls hR hl hS => lv_isub hX.1 hX.2.1 hd (k H locs ls hR hl hS)
theorem g_imul (hX : ga_B E d y cc nL mc ms X) {x z : Int32} (hd : decode cc pc = .ok (.imul, 1)) (hn : pc + 1 = nx) (k : ga_G E X kc ks nx lv (.int (x * z) :: st) M) : ga_G E X kc ks pc lv (.int z :: .int x :: st) M := by
  subst hn; exact fun H locs ls hR hl hS => lv_imul hX.1 hX.2.1 hd (k H locs ls hR hl hS)
theorem g_iand (hX : ga_B E d y cc nL mc ms X) {x z : Int32} (hd : decode cc pc = .ok (.iand, 1)) (hn : pc + 1 = nx) (k : ga_G E X kc ks nx lv (.int (x &&& z) :: st) M) : ga_G E X kc ks pc lv (.int z :: .int x :: st) M := by
  subst hn; exact fun H locs ls hR hl hS => lv_iand hX.1 hX.2.1 hd (k H locs ls hR hl hS)
theorem g_idiv (hX : ga_B E d y cc nL mc ms X) {x z : Int32} (hd : decode cc pc = .ok (.idiv, 1)) (hn : pc + 1 = nx) (h0 : ¬ z = 0) (k : ga_G E X kc ks nx lv (.int (x / z) :: st) M) : ga_G E X kc ks pc lv (.int z :: .int x :: st) M := by
  subst hn; exact fun H locs ls hR hl hS => lv_idiv hX.1 hX.2.1 hd h0 (k H locs ls hR hl hS)
theorem g_ishr (hX : ga_B E d y cc nL mc ms X) {x z : Int32} (hd : decode cc pc = .ok (.ishr, 1)) (hn : pc + 1 = nx) (k : ga_G E X kc ks nx lv (.int (x >>> (z &&& 31)) :: st) M) : ga_G E X kc ks pc lv (.int z :: .int x :: st) M := by
  subst hn; exact fun H locs ls hR hl hS => lv_ishr hX.1 hX.2.1 hd (k H locs ls hR hl hS)
theorem g_iushr (hX : ga_B E d y cc nL mc ms X) {x z : Int32} (hd : decode cc pc = .ok (.iushr, 1)) (hn : pc + 1 = nx) (k : ga_G E X kc ks nx lv (.int ((x.toUInt32 >>> (z.toUInt32 &&& Int32.toUInt32 31)).toInt32) :: st) M) : ga_G E X kc ks pc lv (.int z :: .int x :: st) M := by
  subst hn; exact fun H locs ls hR hl hS => lv_iushr hX.1 hX.2.1 hd rfl (k H locs ls hR hl hS)
theorem g_ladd (hX : ga_B E d y cc nL mc ms X) {x z : Int64} (hd : decode cc pc = .ok (.ladd, 1)) (hn : pc + 1 = nx) (k : ga_G E X kc ks nx lv (.long (x + z) :: st) M) : ga_G E X kc ks pc lv (.long z :: .long x :: st) M := by
  subst hn; exact fun H locs ls hR hl hS => lv_ladd hX.1 hX.2.1 hd (k H locs ls hR hl hS)
theorem g_lsub (hX : ga_B E d y cc nL mc ms X) {x z : Int64} (hd : decode cc pc = .ok (.lsub, 1)) (hn : pc + 1 = nx) (k : ga_G E X kc ks nx lv (.long (x - z) :: st) M) : ga_G E X kc ks pc lv (.long z :: .long x :: st) M := by
  subst hn; exact fun H locs ls hR hl hS => lv_lsub hX.1 hX.2.1 hd (k H locs ls hR hl hS)
theorem g_lmul (hX : ga_B E d y cc nL mc ms X) {x z : Int64} (hd : decode cc pc = .ok (.lmul, 1)) (hn : pc + 1 = nx) (k : ga_G E X kc ks nx lv (.long (x * z) :: st) M) : ga_G E X kc ks pc lv (.long z :: .long x :: st) M := by
  subst hn; exact fun H locs ls hR hl hS => lv_lmul hX.1 hX.2.1 hd (k H locs ls hR hl hS)
theorem g_land (hX : ga_B E d y cc nL mc ms X) {x z : Int64} (hd : decode cc pc = .ok (.land, 1)) (hn : pc + 1 = nx) (k : ga_G E X kc ks nx lv (.long (x &&& z) :: st) M) : ga_G E X kc ks pc lv (.long z :: .long x :: st) M := by
  subst hn; exact fun H locs ls hR hl hS => lv_land hX.1 hX.2.1 hd (k H locs ls hR hl hS)
theorem g_lor (hX : ga_B E d y cc nL mc ms X) {x z : Int64} (hd : decode cc pc = .ok (.lor, 1)) (hn : pc + 1 = nx) (k : ga_G E X kc ks nx lv (.long (x ||| z) :: st) M) : ga_G E X kc ks pc lv (.long z :: .long x :: st) M := by
  subst hn; exact fun H locs ls hR hl hS => lv_lor hX.1 hX.2.1 hd (k H locs ls hR hl hS)
theorem g_lxor (hX : ga_B E d y cc nL mc ms X) {x z : Int64} (hd : decode cc pc = .ok (.lxor, 1)) (hn : pc + 1 = nx) (k : ga_G E X kc ks nx lv (.long (x ^^^ z) :: st) M) : ga_G E X kc ks pc lv (.long z :: .long x :: st) M := by
  subst hn; exact fun H locs ls hR hl hS => lv_lxor hX.1 hX.2.1 hd (k H locs ls hR hl hS)
theorem g_ldiv (hX : ga_B E d y cc nL mc ms X) {x z : Int64} (hd : decode cc pc = .ok (.ldiv, 1)) (hn : pc + 1 = nx) (h0 : ¬ z = 0) (k : ga_G E X kc ks nx lv (.long (x / z) :: st) M) : ga_G E X kc ks pc lv (.long z :: .long x :: st) M := by
  subst hn; exact fun H locs ls hR hl hS => lv_ldiv hX.1 hX.2.1 hd h0 (k H locs ls hR hl hS)
theorem g_lcmp (hX : ga_B E d y cc nL mc ms X) {x z : Int64} (hd : decode cc pc = .ok (.lcmp, 1)) (hn : pc + 1 = nx) (k : ga_G E X kc ks nx lv (.int (lg_cmp x z) :: st) M) : ga_G E X kc ks pc lv (.long z :: .long x :: st) M := by
  subst hn; exact fun H locs ls hR hl hS => W.lcmp hX.1 hX.2.1 hd (k H locs ls hR hl hS)
theorem g_lneg (hX : ga_B E d y cc nL mc ms X) {x : Int64} (hd : decode cc pc = .ok (.lneg, 1)) (hn : pc + 1 = nx) (k : ga_G E X kc ks nx lv (.long (-x) :: st) M) : ga_G E X kc ks pc lv (.long x :: st) M := by
  subst hn; exact fun H locs ls hR hl hS => lv_lneg hX.1 hX.2.1 hd (k H locs ls hR hl hS)
theorem g_i2l (hX : ga_B E d y cc nL mc ms X) {x : Int32} (hd : decode cc pc = .ok (.i2l, 1)) (hn : pc + 1 = nx) (k : ga_G E X kc ks nx lv (.long x.toInt64 :: st) M) : ga_G E X kc ks pc lv (.int x :: st) M := by
  subst hn; exact fun H locs ls hR hl hS => lv_i2l hX.1 hX.2.1 hd rfl (k H locs ls hR hl hS)
theorem g_l2i (hX : ga_B E d y cc nL mc ms X) {x : Int64} (hd : decode cc pc = .ok (.l2i, 1)) (hn : pc + 1 = nx) (k : ga_G E X kc ks nx lv (.int x.toInt32 :: st) M) : ga_G E X kc ks pc lv (.long x :: st) M := by
  subst hn; exact fun H locs ls hR hl hS => lv_l2i hX.1 hX.2.1 hd rfl (k H locs ls hR hl hS)
theorem g_lshl (hX : ga_B E d y cc nL mc ms X) {x : Int64} {z : Int32} (hd : decode cc pc = .ok (.lshl, 1)) (hn : pc + 1 = nx) (k : ga_G E X kc ks nx lv (.long (x <<< (z.toInt64 &&& 63)) :: st) M) : ga_G E X kc ks pc lv (.int z :: .long x :: st) M := by
  subst hn; exact fun H locs ls hR hl hS => lv_lshl hX.1 hX.2.1 hd rfl (k H locs ls hR hl hS)
theorem g_lushr (hX : ga_B E d y cc nL mc ms X) {x : Int64} {z : Int32} (hd : decode cc pc = .ok (.lushr, 1)) (hn : pc + 1 = nx) (k : ga_G E X kc ks nx lv (.long (x.toUInt64 >>> (z.toInt64.toUInt64 &&& Int64.toUInt64 63)).toInt64 :: st) M) : ga_G E X kc ks pc lv (.int z :: .long x :: st) M := by
  subst hn; exact fun H locs ls hR hl hS => lv_lushr hX.1 hX.2.1 hd rfl (k H locs ls hR hl hS)
theorem g_iconst (hX : ga_B E d y cc nL mc ms X) {n : Int} (v : Int32) (hd : decode cc pc = .ok (.iconst n, 1)) (hn : pc + 1 = nx) (hv : Int32.ofInt n = v) (k : ga_G E X kc ks nx lv (.int v :: st) M) : ga_G E X kc ks pc lv st M := by
  subst hn; exact fun H locs ls hR hl hS => lv_iconst hX.1 hX.2.1 hd hv (k H locs ls hR hl hS)
theorem g_bipush (hX : ga_B E d y cc nL mc ms X) {n : Int} (v : Int32) (hd : decode cc pc = .ok (.bipush n, 2)) (hn : pc + 2 = nx) (hv : (Int8.ofInt n).toInt32 = v) (k : ga_G E X kc ks nx lv (.int v :: st) M) : ga_G E X kc ks pc lv st M := by
  subst hn; exact fun H locs ls hR hl hS => lv_bipush hX.1 hX.2.1 hd hv (k H locs ls hR hl hS)
theorem g_sipush (hX : ga_B E d y cc nL mc ms X) {n : Int} (v : Int32) (hd : decode cc pc = .ok (.sipush n, 3)) (hn : pc + 3 = nx) (hv : (Int16.ofInt n).toInt32 = v) (k : ga_G E X kc ks nx lv (.int v :: st) M) : ga_G E X kc ks pc lv st M := by
  subst hn; exact fun H locs ls hR hl hS => lv_sipush hX.1 hX.2.1 hd hv (k H locs ls hR hl hS)
theorem g_lconst (hX : ga_B E d y cc nL mc ms X) {n : Fin 2} (v : Int64) (hd : decode cc pc = .ok (.lconst n, 1)) (hn : pc + 1 = nx) (hv : Int64.ofNat (n : Nat) = v) (k : ga_G E X kc ks nx lv (.long v :: st) M) : ga_G E X kc ks pc lv st M := by
  subst hn; exact fun H locs ls hR hl hS => lv_lconst hX.1 hX.2.1 hd hv (k H locs ls hR hl hS)
theorem g_ldc (hX : ga_B E d y cc nL mc ms X) {i : Nat} (v : Int32) (hd : decode cc pc = .ok (.ldc i, 2)) (hn : pc + 2 = nx) (hc : Cond.constant y.cls i v ∈ ga_T) (k : ga_G E X kc ks nx lv (.int v :: st) M) : ga_G E X kc ks pc lv st M := by
  subst hn; exact fun H locs ls hR hl hS => lv_ldc hX.1 hX.2.1 hX.2.2.2.1 (hX.2.2.2.2.1 _ hc) hd (k H locs ls hR hl hS)
theorem g_ldc2_w (hX : ga_B E d y cc nL mc ms X) {i : Nat} (v : Int64) (hd : decode cc pc = .ok (.ldc2_w i, 3)) (hn : pc + 3 = nx) (hc : Cond.constantLong y.cls i v ∈ ga_T) (k : ga_G E X kc ks nx lv (.long v :: st) M) : ga_G E X kc ks pc lv st M := by
  subst hn; exact fun H locs ls hR hl hS => lv_ldc2 hX.1 hX.2.1 hX.2.2.2.1 (hX.2.2.2.2.1 _ hc) hd (k H locs ls hR hl hS)
theorem g_aconst_null (hX : ga_B E d y cc nL mc ms X) (hd : decode cc pc = .ok (.aconst_null, 1)) (hn : pc + 1 = nx) (k : ga_G E X kc ks nx lv (.null :: st) M) : ga_G E X kc ks pc lv st M := by
  subst hn; exact fun H locs ls hR hl hS => lv_null hX.1 hX.2.1 hd (k H locs ls hR hl hS)
theorem g_dup (hX : ga_B E d y cc nL mc ms X) {v : Value} (hd : decode cc pc = .ok (.dup, 1)) (hn : pc + 1 = nx) (hc : v.category = 1) (k : ga_G E X kc ks nx lv (v :: v :: st) M) : ga_G E X kc ks pc lv (v :: st) M := by
  subst hn; exact fun H locs ls hR hl hS => lv_dup hX.1 hX.2.1 hd (by rw [ga_v_cat]; exact hc) (k H locs ls hR hl hS)
theorem g_dup2 (hX : ga_B E d y cc nL mc ms X) {v w : Value} (hd : decode cc pc = .ok (.dup2, 1)) (hn : pc + 1 = nx) (hc : v.category = 1) (hc2 : w.category = 1) (k : ga_G E X kc ks nx lv (v :: w :: v :: w :: st) M) : ga_G E X kc ks pc lv (v :: w :: st) M := by
  subst hn; exact fun H locs ls hR hl hS => lv_dup2_11 hX.1 hX.2.1 hd (by rw [ga_v_cat]; exact hc) (by rw [ga_v_cat]; exact hc2) (k H locs ls hR hl hS)
theorem g_pop (hX : ga_B E d y cc nL mc ms X) {v : Value} (hd : decode cc pc = .ok (.pop, 1)) (hn : pc + 1 = nx) (hc : v.category = 1) (k : ga_G E X kc ks nx lv st M) : ga_G E X kc ks pc lv (v :: st) M := by
  subst hn; exact fun H locs ls hR hl hS => lv_pop hX.1 hX.2.1 hd (by rw [ga_v_cat]; exact hc) (k H locs ls hR hl hS)
theorem g_goto (hX : ga_B E d y cc nL mc ms X) {off : Int} (hd : decode cc pc = .ok (.goto off, 3)) (ht : (pc : Int) + off = (nx : Int)) (k : ga_G E X kc ks nx lv st M) : ga_G E X kc ks pc lv st M :=
  fun H locs ls hR hl hS => lv_goto hX.1 hX.2.1 hd ht (k H locs ls hR hl hS)
theorem g_iload_n (hX : ga_B E d y cc nL mc ms X) {k4 : Fin 4} (i : Nat) {x : Int32} (hd : decode cc pc = .ok (.iload_n k4, 1)) (hi : (k4 : Nat) = i) (hn : pc + 1 = nx) (hl : ga_lk lv i = some (.int x)) (k : ga_G E X kc ks nx lv (.int x :: st) M) : ga_G E X kc ks pc lv st M := by
  subst hn; exact fun H locs ls hR h hS => lv_iload_n hX.1 hX.2.1 hd hi (ga_rd h hl) (k H locs ls hR h hS)
theorem g_iload (hX : ga_B E d y cc nL mc ms X) (i : Nat) {x : Int32} (hd : decode cc pc = .ok (.iload i, 2)) (hn : pc + 2 = nx) (hl : ga_lk lv i = some (.int x)) (k : ga_G E X kc ks nx lv (.int x :: st) M) : ga_G E X kc ks pc lv st M := by
  subst hn; exact fun H locs ls hR h hS => lv_iload hX.1 hX.2.1 hd (ga_rd h hl) (k H locs ls hR h hS)
theorem g_lload_n (hX : ga_B E d y cc nL mc ms X) {k4 : Fin 4} (i : Nat) {x : Int64} (hd : decode cc pc = .ok (.lload_n k4, 1)) (hi : (k4 : Nat) = i) (hn : pc + 1 = nx) (hl : ga_lk lv i = some (.long x)) (k : ga_G E X kc ks nx lv (.long x :: st) M) : ga_G E X kc ks pc lv st M := by
  subst hn; exact fun H locs ls hR h hS => lv_lload_n hX.1 hX.2.1 hd hi (ga_rd h hl) (k H locs ls hR h hS)
theorem g_lload (hX : ga_B E d y cc nL mc ms X) (i : Nat) {x : Int64} (hd : decode cc pc = .ok (.lload i, 2)) (hn : pc + 2 = nx) (hl : ga_lk lv i = some (.long x)) (k : ga_G E X kc ks nx lv (.long x :: st) M) : ga_G E X kc ks pc lv st M := by
  subst hn; exact fun H locs ls hR h hS => lv_lload hX.1 hX.2.1 hd (ga_rd h hl) (k H locs ls hR h hS)
theorem g_aload_n (hX : ga_B E d y cc nL mc ms X) {k4 : Fin 4} (i : Nat) {x : Nat} (hd : decode cc pc = .ok (.aload_n k4, 1)) (hi : (k4 : Nat) = i) (hn : pc + 1 = nx) (hl : ga_lk lv i = some (.ref x)) (k : ga_G E X kc ks nx lv (.ref x :: st) M) : ga_G E X kc ks pc lv st M := by
  subst hn; exact fun H locs ls hR h hS => lv_aload_n hX.1 hX.2.1 hd hi (ga_rd h hl) (k H locs ls hR h hS)
theorem g_aload (hX : ga_B E d y cc nL mc ms X) (i : Nat) {x : Nat} (hd : decode cc pc = .ok (.aload i, 2)) (hn : pc + 2 = nx) (hl : ga_lk lv i = some (.ref x)) (k : ga_G E X kc ks nx lv (.ref x :: st) M) : ga_G E X kc ks pc lv st M := by
  subst hn; exact fun H locs ls hR h hS => lv_aload hX.1 hX.2.1 hd (ga_rd h hl) (k H locs ls hR h hS)
theorem g_aload_nN (hX : ga_B E d y cc nL mc ms X) {k4 : Fin 4} (i : Nat) (hd : decode cc pc = .ok (.aload_n k4, 1)) (hi : (k4 : Nat) = i) (hn : pc + 1 = nx) (hl : ga_lk lv i = some .null) (k : ga_G E X kc ks nx lv (.null :: st) M) : ga_G E X kc ks pc lv st M := by
  subst hn; exact fun H locs ls hR h hS => lv_aload_nN hX.1 hX.2.1 hd hi (ga_rd h hl) (k H locs ls hR h hS)
theorem g_aloadN (hX : ga_B E d y cc nL mc ms X) (i : Nat) (hd : decode cc pc = .ok (.aload i, 2)) (hn : pc + 2 = nx) (hl : ga_lk lv i = some .null) (k : ga_G E X kc ks nx lv (.null :: st) M) : ga_G E X kc ks pc lv st M := by
  subst hn; exact fun H locs ls hR h hS => lv_aloadN hX.1 hX.2.1 hd (ga_rd h hl) (k H locs ls hR h hS)
theorem g_aload_nR (hX : ga_B E d y cc nL mc ms X) {k4 : Fin 4} (i : Nat) {x : Nat} (hd : decode cc pc = .ok (.aload_n k4, 1)) (hi : (k4 : Nat) = i) (hn : pc + 1 = nx) (hl : ga_lk lv i = some (.retAddr x)) (k : ga_G E X kc ks nx lv (.retAddr x :: st) M) : ga_G E X kc ks pc lv st M := by
  subst hn; exact fun H locs ls hR h hS => lv_aload_n hX.1 hX.2.1 hd hi (ga_rd h hl) (k H locs ls hR h hS)
theorem g_istore_n (hX : ga_B E d y cc nL mc ms X) {k4 : Fin 4} (i : Nat) {x : Int32} (hd : decode cc pc = .ok (.istore_n k4, 1)) (hi : (k4 : Nat) = i) (hn : pc + 1 = nx) (hL : Nat.blt (i) nL = true) (k : ga_G E X kc ks nx (ga_s1 lv i (.int x)) st M) : ga_G E X kc ks pc lv (.int x :: st) M := by
  subst hn; exact fun H locs ls hR h hS => lv_istore_n hX.1 hX.2.1 hd hi h (by rw [hX.2.2.1]; exact Nat.blt_eq.mp hL) rfl (fun ls' h' => k H locs ls' hR (ga_h1 (v := .int x) h') hS)
theorem g_istore (hX : ga_B E d y cc nL mc ms X) (i : Nat) {x : Int32} (hd : decode cc pc = .ok (.istore i, 2)) (hn : pc + 2 = nx) (hL : Nat.blt (i) nL = true) (k : ga_G E X kc ks nx (ga_s1 lv i (.int x)) st M) : ga_G E X kc ks pc lv (.int x :: st) M := by
  subst hn; exact fun H locs ls hR h hS => lv_istore hX.1 hX.2.1 hd h (by rw [hX.2.2.1]; exact Nat.blt_eq.mp hL) rfl (fun ls' h' => k H locs ls' hR (ga_h1 (v := .int x) h') hS)
theorem g_lstore_n (hX : ga_B E d y cc nL mc ms X) {k4 : Fin 4} (i : Nat) {x : Int64} (hd : decode cc pc = .ok (.lstore_n k4, 1)) (hi : (k4 : Nat) = i) (hn : pc + 1 = nx) (hL : Nat.blt (i + 1) nL = true) (k : ga_G E X kc ks nx (ga_s2 lv i (.long x)) st M) : ga_G E X kc ks pc lv (.long x :: st) M := by
  subst hn; exact fun H locs ls hR h hS => lv_lstore_n hX.1 hX.2.1 hd hi h (by rw [hX.2.2.1]; exact Nat.blt_eq.mp hL) rfl (fun ls' h' => k H locs ls' hR (ga_h2 (v := .long x) h') hS)
theorem g_lstore (hX : ga_B E d y cc nL mc ms X) (i : Nat) {x : Int64} (hd : decode cc pc = .ok (.lstore i, 2)) (hn : pc + 2 = nx) (hL : Nat.blt (i + 1) nL = true) (k : ga_G E X kc ks nx (ga_s2 lv i (.long x)) st M) : ga_G E X kc ks pc lv (.long x :: st) M := by
  subst hn; exact fun H locs ls hR h hS => lv_lstore hX.1 hX.2.1 hd h (by rw [hX.2.2.1]; exact Nat.blt_eq.mp hL) rfl (fun ls' h' => k H locs ls' hR (ga_h2 (v := .long x) h') hS)
theorem g_astore_n (hX : ga_B E d y cc nL mc ms X) {k4 : Fin 4} (i : Nat) {x : Nat} (hd : decode cc pc = .ok (.astore_n k4, 1)) (hi : (k4 : Nat) = i) (hn : pc + 1 = nx) (hL : Nat.blt (i) nL = true) (k : ga_G E X kc ks nx (ga_s1 lv i (.ref x)) st M) : ga_G E X kc ks pc lv (.ref x :: st) M := by
  subst hn; exact fun H locs ls hR h hS => lv_astore_n hX.1 hX.2.1 hd hi h (by rw [hX.2.2.1]; exact Nat.blt_eq.mp hL) rfl (fun ls' h' => k H locs ls' hR (ga_h1 (v := .ref x) h') hS)
theorem g_astore (hX : ga_B E d y cc nL mc ms X) (i : Nat) {x : Nat} (hd : decode cc pc = .ok (.astore i, 2)) (hn : pc + 2 = nx) (hL : Nat.blt (i) nL = true) (k : ga_G E X kc ks nx (ga_s1 lv i (.ref x)) st M) : ga_G E X kc ks pc lv (.ref x :: st) M := by
  subst hn; exact fun H locs ls hR h hS => lv_astore hX.1 hX.2.1 hd h (by rw [hX.2.2.1]; exact Nat.blt_eq.mp hL) rfl (fun ls' h' => k H locs ls' hR (ga_h1 (v := .ref x) h') hS)
theorem g_astore_nN (hX : ga_B E d y cc nL mc ms X) {k4 : Fin 4} (i : Nat) (hd : decode cc pc = .ok (.astore_n k4, 1)) (hi : (k4 : Nat) = i) (hn : pc + 1 = nx) (hL : Nat.blt i nL = true) (k : ga_G E X kc ks nx (ga_s1 lv i .null) st M) : ga_G E X kc ks pc lv (.null :: st) M := by
  subst hn; exact fun H locs ls hR h hS => lv_astore_nN hX.1 hX.2.1 hd hi h (by rw [hX.2.2.1]; exact Nat.blt_eq.mp hL) rfl (fun ls' h' => k H locs ls' hR (ga_h1 (v := .null) h') hS)
theorem g_astoreN (hX : ga_B E d y cc nL mc ms X) (i : Nat) (hd : decode cc pc = .ok (.astore i, 2)) (hn : pc + 2 = nx) (hL : Nat.blt i nL = true) (k : ga_G E X kc ks nx (ga_s1 lv i .null) st M) : ga_G E X kc ks pc lv (.null :: st) M := by
  subst hn; exact fun H locs ls hR h hS => lv_astoreN hX.1 hX.2.1 hd h (by rw [hX.2.2.1]; exact Nat.blt_eq.mp hL) rfl (fun ls' h' => k H locs ls' hR (ga_h1 (v := .null) h') hS)
theorem g_iinc (hX : ga_B E d y cc nL mc ms X) (i : Nat) {n : Int} {x : Int32} (v : Int32) (hd : decode cc pc = .ok (.iinc i n, 3)) (hn : pc + 3 = nx) (hL : Nat.blt i nL = true) (hl : ga_lk lv i = some (.int x)) (hv : x + Int32.ofInt n = v) (k : ga_G E X kc ks nx (ga_s1 lv i (.int v)) st M) : ga_G E X kc ks pc lv st M := by
  subst hn
  intro H locs ls hR h hS
  obtain ⟨j, hj⟩ := List.getElem?_of_mem ((ga_lv_mem E lv 0 (i, .int x)).mpr ⟨i, .int x, hl, by rw [Nat.zero_add]; rfl⟩)
  exact lv_iinc hX.1 hX.2.1 hd h hj hv (by rw [hX.2.2.1]; exact Nat.blt_eq.mp hL) rfl (fun ls' h' => k H locs ls' hR (ga_h1 (v := .int v) h') hS)
theorem g_icmp_eq (hX : ga_B E d y cc nL mc ms X) {x z : Int32} {off : Int} (tgt : Nat) (hd : decode cc pc = .ok (.if_icmp .eq off, 3)) (ht : (pc : Int) + off = (tgt : Int)) (hn : pc + 3 = nx) (kt : x = z → ga_G E X kc ks tgt lv st M) (kf : ¬ (x = z) → ga_G E X kc ks nx lv st M) : ga_G E X kc ks pc lv (.int z :: .int x :: st) M := by
  subst hn; exact fun H locs ls hR hl hS => lv_icmp_eq hX.1 hX.2.1 hd ht (fun h => kt h H locs ls hR hl hS) (fun h => kf h H locs ls hR hl hS)
theorem g_if_eq (hX : ga_B E d y cc nL mc ms X) {x : Int32} {off : Int} (tgt : Nat) (hd : decode cc pc = .ok (.ifCond .eq off, 3)) (ht : (pc : Int) + off = (tgt : Int)) (hn : pc + 3 = nx) (kt : x = 0 → ga_G E X kc ks tgt lv st M) (kf : ¬ (x = 0) → ga_G E X kc ks nx lv st M) : ga_G E X kc ks pc lv (.int x :: st) M := by
  subst hn; exact fun H locs ls hR hl hS => lv_if_eq hX.1 hX.2.1 hd ht (fun h => kt h H locs ls hR hl hS) (fun h => kf h H locs ls hR hl hS)
theorem g_icmp_ne (hX : ga_B E d y cc nL mc ms X) {x z : Int32} {off : Int} (tgt : Nat) (hd : decode cc pc = .ok (.if_icmp .ne off, 3)) (ht : (pc : Int) + off = (tgt : Int)) (hn : pc + 3 = nx) (kt : ¬ x = z → ga_G E X kc ks tgt lv st M) (kf : x = z → ga_G E X kc ks nx lv st M) : ga_G E X kc ks pc lv (.int z :: .int x :: st) M := by
  subst hn; exact fun H locs ls hR hl hS => lv_icmp_ne hX.1 hX.2.1 hd ht (fun h => kt h H locs ls hR hl hS) (fun h => kf h H locs ls hR hl hS)
theorem g_if_ne (hX : ga_B E d y cc nL mc ms X) {x : Int32} {off : Int} (tgt : Nat) (hd : decode cc pc = .ok (.ifCond .ne off, 3)) (ht : (pc : Int) + off = (tgt : Int)) (hn : pc + 3 = nx) (kt : ¬ x = 0 → ga_G E X kc ks tgt lv st M) (kf : x = 0 → ga_G E X kc ks nx lv st M) : ga_G E X kc ks pc lv (.int x :: st) M := by
  subst hn; exact fun H locs ls hR hl hS => lv_if_ne hX.1 hX.2.1 hd ht (fun h => kt h H locs ls hR hl hS) (fun h => kf h H locs ls hR hl hS)
theorem g_icmp_lt (hX : ga_B E d y cc nL mc ms X) {x z : Int32} {off : Int} (tgt : Nat) (hd : decode cc pc = .ok (.if_icmp .lt off, 3)) (ht : (pc : Int) + off = (tgt : Int)) (hn : pc + 3 = nx) (kt : x < z → ga_G E X kc ks tgt lv st M) (kf : ¬ (x < z) → ga_G E X kc ks nx lv st M) : ga_G E X kc ks pc lv (.int z :: .int x :: st) M := by
  subst hn; exact fun H locs ls hR hl hS => lv_icmp_lt hX.1 hX.2.1 hd ht (fun h => kt h H locs ls hR hl hS) (fun h => kf h H locs ls hR hl hS)
theorem g_if_lt (hX : ga_B E d y cc nL mc ms X) {x : Int32} {off : Int} (tgt : Nat) (hd : decode cc pc = .ok (.ifCond .lt off, 3)) (ht : (pc : Int) + off = (tgt : Int)) (hn : pc + 3 = nx) (kt : x < 0 → ga_G E X kc ks tgt lv st M) (kf : ¬ (x < 0) → ga_G E X kc ks nx lv st M) : ga_G E X kc ks pc lv (.int x :: st) M := by
  subst hn; exact fun H locs ls hR hl hS => lv_if_lt hX.1 hX.2.1 hd ht (fun h => kt h H locs ls hR hl hS) (fun h => kf h H locs ls hR hl hS)
theorem g_icmp_ge (hX : ga_B E d y cc nL mc ms X) {x z : Int32} {off : Int} (tgt : Nat) (hd : decode cc pc = .ok (.if_icmp .ge off, 3)) (ht : (pc : Int) + off = (tgt : Int)) (hn : pc + 3 = nx) (kt : z ≤ x → ga_G E X kc ks tgt lv st M) (kf : ¬ (z ≤ x) → ga_G E X kc ks nx lv st M) : ga_G E X kc ks pc lv (.int z :: .int x :: st) M := by
  subst hn; exact fun H locs ls hR hl hS => lv_icmp_ge hX.1 hX.2.1 hd ht (fun h => kt h H locs ls hR hl hS) (fun h => kf h H locs ls hR hl hS)
theorem g_if_ge (hX : ga_B E d y cc nL mc ms X) {x : Int32} {off : Int} (tgt : Nat) (hd : decode cc pc = .ok (.ifCond .ge off, 3)) (ht : (pc : Int) + off = (tgt : Int)) (hn : pc + 3 = nx) (kt : 0 ≤ x → ga_G E X kc ks tgt lv st M) (kf : ¬ (0 ≤ x) → ga_G E X kc ks nx lv st M) : ga_G E X kc ks pc lv (.int x :: st) M := by
  subst hn; exact fun H locs ls hR hl hS => lv_if_ge hX.1 hX.2.1 hd ht (fun h => kt h H locs ls hR hl hS) (fun h => kf h H locs ls hR hl hS)
theorem g_icmp_gt (hX : ga_B E d y cc nL mc ms X) {x z : Int32} {off : Int} (tgt : Nat) (hd : decode cc pc = .ok (.if_icmp .gt off, 3)) (ht : (pc : Int) + off = (tgt : Int)) (hn : pc + 3 = nx) (kt : z < x → ga_G E X kc ks tgt lv st M) (kf : ¬ (z < x) → ga_G E X kc ks nx lv st M) : ga_G E X kc ks pc lv (.int z :: .int x :: st) M := by
  subst hn; exact fun H locs ls hR hl hS => lv_icmp_gt hX.1 hX.2.1 hd ht (fun h => kt h H locs ls hR hl hS) (fun h => kf h H locs ls hR hl hS)
theorem g_if_gt (hX : ga_B E d y cc nL mc ms X) {x : Int32} {off : Int} (tgt : Nat) (hd : decode cc pc = .ok (.ifCond .gt off, 3)) (ht : (pc : Int) + off = (tgt : Int)) (hn : pc + 3 = nx) (kt : 0 < x → ga_G E X kc ks tgt lv st M) (kf : ¬ (0 < x) → ga_G E X kc ks nx lv st M) : ga_G E X kc ks pc lv (.int x :: st) M := by
  subst hn; exact fun H locs ls hR hl hS => lv_if_gt hX.1 hX.2.1 hd ht (fun h => kt h H locs ls hR hl hS) (fun h => kf h H locs ls hR hl hS)
theorem g_icmp_le (hX : ga_B E d y cc nL mc ms X) {x z : Int32} {off : Int} (tgt : Nat) (hd : decode cc pc = .ok (.if_icmp .le off, 3)) (ht : (pc : Int) + off = (tgt : Int)) (hn : pc + 3 = nx) (kt : x ≤ z → ga_G E X kc ks tgt lv st M) (kf : ¬ (x ≤ z) → ga_G E X kc ks nx lv st M) : ga_G E X kc ks pc lv (.int z :: .int x :: st) M := by
  subst hn; exact fun H locs ls hR hl hS => lv_icmp_le hX.1 hX.2.1 hd ht (fun h => kt h H locs ls hR hl hS) (fun h => kf h H locs ls hR hl hS)
theorem g_if_le (hX : ga_B E d y cc nL mc ms X) {x : Int32} {off : Int} (tgt : Nat) (hd : decode cc pc = .ok (.ifCond .le off, 3)) (ht : (pc : Int) + off = (tgt : Int)) (hn : pc + 3 = nx) (kt : x ≤ 0 → ga_G E X kc ks tgt lv st M) (kf : ¬ (x ≤ 0) → ga_G E X kc ks nx lv st M) : ga_G E X kc ks pc lv (.int x :: st) M := by
  subst hn; exact fun H locs ls hR hl hS => lv_if_le hX.1 hX.2.1 hd ht (fun h => kt h H locs ls hR hl hS) (fun h => kf h H locs ls hR hl hS)
theorem g_ifnull (hX : ga_B E d y cc nL mc ms X) {a : Nat} {off : Int} (hd : decode cc pc = .ok (.ifnull off, 3)) (hn : pc + 3 = nx) (k : ga_G E X kc ks nx lv st M) : ga_G E X kc ks pc lv (.ref a :: st) M := by
  subst hn; exact fun H locs ls hR hl hS => lv_ifnull hX.1 hX.2.1 hd (k H locs ls hR hl hS)
theorem g_ifnullN (hX : ga_B E d y cc nL mc ms X) {off : Int} (tgt : Nat) (hd : decode cc pc = .ok (.ifnull off, 3)) (ht : (pc : Int) + off = (tgt : Int)) (k : ga_G E X kc ks tgt lv st M) : ga_G E X kc ks pc lv (.null :: st) M :=
  fun H locs ls hR hl hS => lv_ifnullN hX.1 hX.2.1 hd ht (k H locs ls hR hl hS)
theorem g_ifnonnull (hX : ga_B E d y cc nL mc ms X) {a : Nat} {off : Int} (tgt : Nat) (hd : decode cc pc = .ok (.ifnonnull off, 3)) (ht : (pc : Int) + off = (tgt : Int)) (k : ga_G E X kc ks tgt lv st M) : ga_G E X kc ks pc lv (.ref a :: st) M :=
  fun H locs ls hR hl hS => lv_ifnonnull hX.1 hX.2.1 hd ht (k H locs ls hR hl hS)
theorem g_ifnonnullN (hX : ga_B E d y cc nL mc ms X) {off : Int} (hd : decode cc pc = .ok (.ifnonnull off, 3)) (hn : pc + 3 = nx) (k : ga_G E X kc ks nx lv st M) : ga_G E X kc ks pc lv (.null :: st) M := by
  subst hn; exact fun H locs ls hR hl hS => lv_ifnonnullN hX.1 hX.2.1 hd (k H locs ls hR hl hS)
theorem g_tableOut (hX : ga_B E d y cc nL mc ms X) {dflt lo hi : Int} {offs : Array Int} {len : Nat} {x : Int32} (tgt : Nat) (hd : decode cc pc = .ok (.tableswitch dflt lo hi offs, len)) (h : x.toInt < lo ∨ hi < x.toInt) (ht : (pc : Int) + dflt = (tgt : Int)) (k : ga_G E X kc ks tgt lv st M) : ga_G E X kc ks pc lv (.int x :: st) M :=
  fun H locs ls hR hl hS => lv_tableOut hX.1 hX.2.1 hd h ht (k H locs ls hR hl hS)
theorem g_tableIn (hX : ga_B E d y cc nL mc ms X) {dflt lo hi : Int} {offs : Array Int} {len : Nat} {x : Int32} {off : Int} (tgt : Nat) (hd : decode cc pc = .ok (.tableswitch dflt lo hi offs, len)) (h1 : ¬ x.toInt < lo) (h2 : ¬ hi < x.toInt) (ho : offs[(x.toInt - lo).toNat]? = some off) (ht : (pc : Int) + off = (tgt : Int)) (k : ga_G E X kc ks tgt lv st M) : ga_G E X kc ks pc lv (.int x :: st) M :=
  fun H locs ls hR hl hS => lv_tableIn hX.1 hX.2.1 hd h1 h2 ho ht (k H locs ls hR hl hS)
/-! ends -/
theorem g_ireturn {ty : FieldType} {Post : Option Value → ga_M → Prop} {v : Int32} (hX : ga_B E d y cc nL mc ms X) (hP : ga_P E (some ty) mc ms Post X) (hd : decode cc pc = .ok (.ireturn, 1)) (hn : narrow ty (.int v) = .int v) (hc : kc ≤ mc) (hs : ks ≤ ms) (h : Post (some (.int v)) M) : ga_G E X kc ks pc lv [.int v] M := by
  obtain ⟨p, l, e, R, s, m, args, below, meth, c, Q⟩ := X
  obtain ⟨hr, hq⟩ := hP
  dsimp only at hr hq
  subst hq
  intro H locs ls hR hl hS
  exact W.widen hc hs (W.zret hX.1 hX.2.1 hr hn (fun t ht hW => ⟨some (.int v), M, rfl, h, by rw [ht]; exact hR, hS.F ht⟩) hS.2.2 hd (hlocks := hX.2.2.2.2.2.1))
theorem g_lreturn {Post : Option Value → ga_M → Prop} {v : Int64} (hX : ga_B E d y cc nL mc ms X) (hP : ga_P E (some .long) mc ms Post X) (hd : decode cc pc = .ok (.lreturn, 1)) (hc : kc ≤ mc) (hs : ks ≤ ms) (h : Post (some (.long v)) M) : ga_G E X kc ks pc lv [.long v] M := by
  obtain ⟨p, l, e, R, s, m, args, below, meth, c, Q⟩ := X
  obtain ⟨hr, hq⟩ := hP
  dsimp only at hr hq
  subst hq
  intro H locs ls hR hl hS
  exact W.widen hc hs (W.lret hX.1 hX.2.1 hr (fun t ht hW => ⟨some (.long v), M, rfl, h, by rw [ht]; exact hR, hS.F ht⟩) hS.2.2 hd (hlocks := hX.2.2.2.2.2.1))
theorem g_areturn {nm : String} {Post : Option Value → ga_M → Prop} {v : Value} (hX : ga_B E d y cc nL mc ms X) (hP : ga_P E (some (.object nm)) mc ms Post X) (hd : decode cc pc = .ok (.areturn, 1)) (hv : v = .null ∨ ∃ a, v = .ref a) (hc : kc ≤ mc) (hs : ks ≤ ms) (h : Post (some v) M) : ga_G E X kc ks pc lv [v] M := by
  obtain ⟨p, l, e, R, s, m, args, below, meth, c, Q⟩ := X
  obtain ⟨hr, hq⟩ := hP
  dsimp only at hr hq
  subst hq
  intro H locs ls hR hl hS
  exact W.widen hc hs (W.aret hX.1 hX.2.1 hr (Or.inl ⟨nm, rfl⟩) (by rcases hv with rfl | ⟨a, rfl⟩; exact Or.inl rfl; exact Or.inr ⟨_, rfl⟩) (fun t ht hW => ⟨some v, M, rfl, h, by rw [ht]; exact hR, hS.F ht⟩) hS.2.2 hd (hlocks := hX.2.2.2.2.2.1))
theorem g_return {Post : Option Value → ga_M → Prop} (hX : ga_B E d y cc nL mc ms X) (hP : ga_P E none mc ms Post X) (hd : decode cc pc = .ok (.return_, 1)) (hc : kc ≤ mc) (hs : ks ≤ ms) (h : Post none M) : ga_G E X kc ks pc lv [] M := by
  obtain ⟨p, l, e, R, s, m, args, below, meth, c, Q⟩ := X
  obtain ⟨hr, hq⟩ := hP
  dsimp only at hr hq
  subst hq
  intro H locs ls hR hl hS
  exact W.widen hc hs (W.vret hX.1 hX.2.1 hr (fun t ht hW => ⟨none, M, rfl, h, by rw [ht]; exact hR, hS.F ht⟩) hS.2.2 hd (hlocks := hX.2.2.2.2.2.1))
end
end
section
theorem wi_0 : ∀ w ∈ u_ws RX0 TX0 8, w ∈ lw_tbl ∧ goodWord w = true := by decide +kernel
theorem wi_1 : ∀ w ∈ u_ws RX1 TX1 6, w ∈ lw_tbl ∧ goodWord w = true := by decide +kernel
theorem wi_2 : ∀ w ∈ u_ws RX2 TX2 7, w ∈ lw_tbl ∧ goodWord w = true := by decide +kernel
theorem wi_3 : ∀ w ∈ u_ws RX3 TX3 4, w ∈ lw_tbl ∧ goodWord w = true := by decide +kernel
theorem wi_4 : ∀ w ∈ u_ws RX4 TX4 15, w ∈ lw_tbl ∧ goodWord w = true := by decide +kernel
theorem wi_5 : ∀ w ∈ u_ws RX5 TX5 3, w ∈ lw_tbl ∧ goodWord w = true := by decide +kernel
theorem wi_6 : ∀ w ∈ u_ws RX6 TX6 9, w ∈ lw_tbl ∧ goodWord w = true := by decide +kernel
theorem wi_7 : ∀ w ∈ u_ws RX7 TX7 9, w ∈ lw_tbl ∧ goodWord w = true := by decide +kernel
theorem wi_8 : ∀ w ∈ u_ws RX8 TX8 4, w ∈ lw_tbl ∧ goodWord w = true := by decide +kernel
theorem wi_9 : ∀ w ∈ u_ws RX9 TX9 2, w ∈ lw_tbl ∧ goodWord w = true := by decide +kernel
theorem wi_10 : ∀ w ∈ u_ws RX10 TX10 9, w ∈ lw_tbl ∧ goodWord w = true := by decide +kernel
theorem wi_11 : ∀ w ∈ u_ws RX11 TX11 44, w ∈ lw_tbl ∧ goodWord w = true := by decide +kernel
theorem ga_wsin : ∀ (ci : Nat) (r : vw_C), vwCl[ci]? = some r → ∀ w ∈ u_ws r.1 r.2.1 r.2.2, w ∈ ga_T := by
  intro ci r h w hw
  match ci, h with
  | 0, h => cases h; exact ga_in (wi_0 w hw).1 (wi_0 w hw).2
  | 1, h => cases h; exact ga_in (wi_1 w hw).1 (wi_1 w hw).2
  | 2, h => cases h; exact ga_in (wi_2 w hw).1 (wi_2 w hw).2
  | 3, h => cases h; exact ga_in (wi_3 w hw).1 (wi_3 w hw).2
  | 4, h => cases h; exact ga_in (wi_4 w hw).1 (wi_4 w hw).2
  | 5, h => cases h; exact ga_in (wi_5 w hw).1 (wi_5 w hw).2
  | 6, h => cases h; exact ga_in (wi_6 w hw).1 (wi_6 w hw).2
  | 7, h => cases h; exact ga_in (wi_7 w hw).1 (wi_7 w hw).2
  | 8, h => cases h; exact ga_in (wi_8 w hw).1 (wi_8 w hw).2
  | 9, h => cases h; exact ga_in (wi_9 w hw).1 (wi_9 w hw).2
  | 10, h => cases h; exact ga_in (wi_10 w hw).1 (wi_10 w hw).2
  | 11, h => cases h; exact ga_in (wi_11 w hw).1 (wi_11 w hw).2
  | k + 12, h => simp [vwCl] at h
theorem ga_cls : ∀ (ci : Nat) (r : vw_C), vwCl[ci]? = some r → ∃ ty0 : Nat → FieldType, (∀ k, k < r.2.2 → parseFieldDescriptor (r.2.1 k).2.2.1 = some (ty0 k)) ∧ ∀ a, a < r.2.2 → ∀ b, b < r.2.2 → a ≠ b → (r.2.1 a).2.1 ≠ (r.2.1 b).2.1 := by
  intro ci r h
  match ci, h with
  | 0, h => cases h; exact ⟨tyX0, tyX0_ok, nmX0⟩
  | 1, h => cases h; exact ⟨tyX1, tyX1_ok, nmX1⟩
  | 2, h => cases h; exact ⟨tyX2, tyX2_ok, nmX2⟩
  | 3, h => cases h; exact ⟨tyX3, tyX3_ok, nmX3⟩
  | 4, h => cases h; exact ⟨tyX4, tyX4_ok, nmX4⟩
  | 5, h => cases h; exact ⟨tyX5, tyX5_ok, nmX5⟩
  | 6, h => cases h; exact ⟨tyX6, tyX6_ok, nmX6⟩
  | 7, h => cases h; exact ⟨tyX7, tyX7_ok, nmX7⟩
  | 8, h => cases h; exact ⟨tyX8, tyX8_ok, nmX8⟩
  | 9, h => cases h; exact ⟨tyX9, tyX9_ok, nmX9⟩
  | 10, h => cases h; exact ⟨tyX10, tyX10_ok, nmX10⟩
  | 11, h => cases h; exact ⟨tyX11, tyX11_ok, nmX11⟩
  | k + 12, h => simp [vwCl] at h
theorem ga_one {D : va_G} {q : Nat × va_E} {H : Heap} (h : va_at D vwCl q H) : va_P D vwCl [q] H := fun k q' hk => by
  cases k with
  | zero => cases hk; exact h
  | succ n => simp at hk
def ga_rf (r : Option Nat) : Value := match r with
  | none => .null
  | some a => .ref a
theorem ga_rf_v (E : ga_E) (r : Option Nat) : va_rf (r.map E.2.1) = ga_v E (ga_rf r) := by cases r <;> rfl
/-- a place of an array -/
def ga_ix (i : Int32) (n j : Nat) : Prop := vp_in i n ∧ i.toNatClampNeg = j
theorem ga_ix_of {i : Int32} {n j : Nat} (h : i = nI j) (hj : j < n) (hn : n < 2147483648) : ga_ix i n j := by
  subst h; exact ⟨vp_in_nI hj hn, nI_clamp (by omega)⟩
def ga_F (own : String) (idx ci k : Nat) : Prop := ∃ r : vw_C, vwCl[ci]? = some r ∧ k < r.2.2 ∧ Cond.fieldLink own idx (r.2.1 k).1 (r.2.1 k).2.1 (r.2.1 k).2.2.1 ∈ ga_T
def ga_FP (own : String) (idx ci k : Nat) (ty : FieldType) (fin : Bool) : Prop := ∃ r : vw_C, vwCl[ci]? = some r ∧ k < r.2.2 ∧ Cond.fieldLink own idx (r.2.1 k).1 (r.2.1 k).2.1 (r.2.1 k).2.2.1 ∈ ga_T ∧ (r.2.1 k).2.2.2 = fin ∧ parseFieldDescriptor (r.2.1 k).2.2.1 = some ty ∧ (fin = true → (r.2.1 k).1 = own)
theorem ga_dn {n a : Nat} (h : 106 ≤ n) (ha : Nat.blt a 106 = true) : a < n := Nat.lt_of_lt_of_le (Nat.blt_eq.mp ha) h
section
variable {E : ga_E} {X : ga_X} {d nL mc ms kc ks pc nx : Nat} {y : MethodName} {cc : ByteArray} {lv : List (Option Value)} {st : List Value} {M : ga_M}
theorem g_getfield (hX : ga_B E d y cc nL mc ms X) {idx ci kf a : Nat} {fs : List Value} {v : Value} (hd : decode cc pc = .ok (.getfield idx, 3)) (hn : pc + 3 = nx) (hf : ga_F y.cls idx ci kf) (ha : a < M.1) (hg : ga_get M a = .inr (ci, fs)) (hv : fs[kf]? = some v) (k : ga_G E X kc ks nx lv (v :: st) M) : ga_G E X kc ks pc lv (.ref a :: st) M := by
  subst hn
  obtain ⟨r, h1, h2, h3⟩ := hf
  intro H locs ls hR hl hS
  have hat := hR.2.2.2 a ha
  rw [hg] at hat
  exact va_get (D := E.2.2.1) (C := r.1) (T := r.2.1) (N := r.2.2) hX.1 hX.2.1 hX.2.2.2.2.1 (ga_wsin ci r h1) hX.2.2.2.1 hX.2.2.2.2.2.2.2.1.1 (ga_one hat) 0 (ci := ci) (fs := fs.map (ga_v E)) rfl h1 kf h2 (hX.2.2.2.2.1 _ h3) (fun _ h => h) (v := ga_v E v) (by rw [List.getElem?_map, hv]; rfl) hd (k H locs ls hR hl hS)
theorem g_putfield (hX : ga_B E d y cc nL mc ms X) {idx ci kf a : Nat} {fs : List Value} {v : Value} {ty : FieldType} (hd : decode cc pc = .ok (.putfield idx, 3)) (hn : pc + 3 = nx) (hf : ga_FP y.cls idx ci kf ty false) (ha : a < M.1) (hg : ga_get M a = .inr (ci, fs)) (hv1 : narrow ty (ga_v E v) = ga_v E v) (hv2 : fits ty (ga_v E v) = true) (hl0 : Nat.blt kf fs.length = true)
    (k : ga_G E X kc ks nx lv st (ga_put M a (.inr (ci, fs.set kf v)))) : ga_G E X kc ks pc lv (v :: .ref a :: st) M := by
  subst hn
  obtain ⟨r, h1, h2, h3, hfin, hty, -⟩ := hf
  obtain ⟨ty0, hty0, hnm⟩ := ga_cls ci r h1
  have hl : kf < fs.length := Nat.blt_eq.mp hl0
  have hts := hX.2.2.2.2.1
  have hK := hX.2.2.2.2.2.2.2.1.1
  have hap := va_apart (own := y.cls) (C := r.1) (T := r.2.1) (N := r.2.2) hts (ga_wsin ci r h1) ty0 hty0 hnm hK h1
  intro H locs ls hR hl2 hS
  have hat := hR.2.2.2 a ha
  rw [hg] at hat
  obtain ⟨r', g1, cell, q1, q2, q3, q4⟩ := hat
  have hr : r' = r := Option.some.inj (g1.symm.trans h1)
  subst hr
  obtain ⟨hSl, hfc, kC, hkC, hkind⟩ := hK.1 ci _ h1
  obtain ⟨cf, kff, fi, f, hi, hsl⟩ := hSl kf h2
  have hlay := hts _ (ga_wsin ci r' h1 _ (u_in_lay h2))
  unfold u_lay at hlay
  rw [if_neg (by rw [hfin]; decide)] at hlay
  have hst := (u_facts hfc hkC (u_lays hts (ga_wsin ci r' h1) h2) hi).1
  have h6 := u_store hfc hkC hkind hlay hi hty hv1 hv2
  refine W.putK hX.1 hX.2.1 (f := f) ⟨hX.2.2.2.1, hts _ h3, ⟨_, _, _, hi⟩, hst⟩ (by rw [q2]; exact h6) q1 q3 (by rw [hsl]; exact k2_hasslot (q4 kf h2)) rfl rfl hd fun H' e1 e2 e3 => ?_
  rw [hsl] at e1 ⊢
  refine k H' _ ls (hR.put hX.2.2.2.2.2.2.2.2.1 ha e2 e3 ?_) hl2 (hS.put e2 e3 (hX.2.2.2.2.2.2.2.2.1.2 a))
  refine ⟨r', h1, t_OB.to (V := updV (vp_V (fs.map (ga_v E))) kf (ga_v E v)) ⟨_, e1, q2, q3, t_set q4 hap h2 (ga_v E v)⟩ (fun j _ => ?_)⟩
  rw [vp_updV_set (by rw [List.length_map]; exact hl), List.map_set]
theorem g_putfieldF (hX : ga_B E d y cc nL mc ms X) (hin2 : y.name = "<init>") {idx ci kf a : Nat} {fs : List Value} {v : Value} {ty : FieldType} (hd : decode cc pc = .ok (.putfield idx, 3)) (hn : pc + 3 = nx) (hf : ga_FP y.cls idx ci kf ty true) (ha : a < M.1) (hg : ga_get M a = .inr (ci, fs)) (hv1 : narrow ty (ga_v E v) = ga_v E v) (hv2 : fits ty (ga_v E v) = true) (hl0 : Nat.blt kf fs.length = true)
    (k : ga_G E X kc ks nx lv st (ga_put M a (.inr (ci, fs.set kf v)))) : ga_G E X kc ks pc lv (v :: .ref a :: st) M := by
  subst hn
  obtain ⟨r, h1, h2, h3, hfin, hty, hdecl⟩ := hf
  obtain ⟨ty0, hty0, hnm⟩ := ga_cls ci r h1
  have hl : kf < fs.length := Nat.blt_eq.mp hl0
  have hts := hX.2.2.2.2.1
  have hK := hX.2.2.2.2.2.2.2.1.1
  have hown := hX.2.2.2.1
  have hap := va_apart (own := y.cls) (C := r.1) (T := r.2.1) (N := r.2.2) hts (ga_wsin ci r h1) ty0 hty0 hnm hK h1
  intro H locs ls hR hl2 hS
  have hat := hR.2.2.2 a ha
  rw [hg] at hat
  obtain ⟨r', g1, cell, q1, q2, q3, q4⟩ := hat
  have hr : r' = r := Option.some.inj (g1.symm.trans h1)
  subst hr
  obtain ⟨hSl, hfc, kC, hkC, hkind⟩ := hK.1 ci _ h1
  obtain ⟨cf, kff, fi, f, hi, hsl⟩ := hSl kf h2
  have hlay := hts _ (ga_wsin ci r' h1 _ (u_in_lay h2))
  unfold u_lay at hlay
  rw [if_pos hfin] at hlay
  have hst := (u_facts hfc hkC (u_lays hts (ga_wsin ci r' h1) h2) hi).1
  have hcf : X.2.2.2.2.2.1.cls = cf := by
    obtain ⟨_, _, c', _, _, _, -, -, hf', -, -, -, hown2, -⟩ := Cond.laysFinal_spec hlay
    have e1 : c' = cf := by have := hi.symm.trans hf'; simp at this; exact this.1.symm
    rw [hdecl rfl] at hown2
    rw [← e1]; exact Option.some.inj (hown.symm.trans hown2)
  have h6 := u_fits hfc hkC hkind (Or.inr hlay) hi hty hv1 hv2
  refine W.putFinK hX.1 hX.2.1 hown (hts _ h3) hi hst hcf (hX.2.2.2.2.2.2.1.trans hin2) (by rw [q2]; exact h6) q1 q3 (by rw [hsl]; exact k2_hasslot (q4 kf h2)) rfl rfl hd fun H' e1 e2 e3 => ?_
  rw [hsl] at e1 ⊢
  refine k H' _ ls (hR.put hX.2.2.2.2.2.2.2.2.1 ha e2 e3 ?_) hl2 (hS.put e2 e3 (hX.2.2.2.2.2.2.2.2.1.2 a))
  refine ⟨r', h1, t_OB.to (V := updV (vp_V (fs.map (ga_v E))) kf (ga_v E v)) ⟨_, e1, q2, q3, t_set q4 hap h2 (ga_v E v)⟩ (fun j _ => ?_)⟩
  rw [vp_updV_set (by rw [List.length_map]; exact hl), List.map_set]
theorem g_iaload (hX : ga_B E d y cc nL mc ms X) {a n j : Nat} {i : Int32} {f : Nat → Int32} (hd : decode cc pc = .ok (.iaload, 1)) (hn : pc + 1 = nx) (ha : a < M.1) (hg : ga_get M a = .inl (0, n, .inl f)) (hi : ga_ix i n j) (k : ga_G E X kc ks nx lv (.int (f j) :: st) M) : ga_G E X kc ks pc lv (.int i :: .ref a :: st) M := by
  subst hn
  obtain ⟨hin, rfl⟩ := hi
  intro H locs ls hR hl hS
  have hat := hR.2.2.2 a ha
  rw [hg] at hat
  exact va_iald (D := E.2.2.1) (tys := ga_ty E) hX.1 hX.2.1 hX.2.2.2.2.2.2.2.1.1 (ga_one hat) 0 0 rfl rfl hin hd (k H locs ls hR hl hS)
theorem g_laload (hX : ga_B E d y cc nL mc ms X) {a n j : Nat} {i : Int32} {f : Nat → Int64} (hd : decode cc pc = .ok (.laload, 1)) (hn : pc + 1 = nx) (ha : a < M.1) (hg : ga_get M a = .inl (1, n, .inr (.inl f))) (hi : ga_ix i n j) (k : ga_G E X kc ks nx lv (.long (f j) :: st) M) : ga_G E X kc ks pc lv (.int i :: .ref a :: st) M := by
  subst hn
  obtain ⟨hin, rfl⟩ := hi
  intro H locs ls hR hl hS
  have hat := hR.2.2.2 a ha
  rw [hg] at hat
  exact va_lald (D := E.2.2.1) (tys := ga_ty E) hX.1 hX.2.1 hX.2.2.2.2.2.2.2.1.1 (ga_one hat) 0 1 rfl rfl hin hd (k H locs ls hR hl hS)
theorem g_zaload (hX : ga_B E d y cc nL mc ms X) {a n j : Nat} {i : Int32} {f : Nat → Int32} (hd : decode cc pc = .ok (.baload, 1)) (hn : pc + 1 = nx) (ha : a < M.1) (hg : ga_get M a = .inl (2, n, .inl f)) (hi : ga_ix i n j) (k : ga_G E X kc ks nx lv (.int (f j) :: st) M) : ga_G E X kc ks pc lv (.int i :: .ref a :: st) M := by
  subst hn
  obtain ⟨hin, rfl⟩ := hi
  intro H locs ls hR hl hS
  have hat := hR.2.2.2 a ha
  rw [hg] at hat
  exact va_zald (D := E.2.2.1) (tys := ga_ty E) hX.1 hX.2.1 hX.2.2.2.2.2.2.2.1.1 (ga_one hat) 0 2 rfl rfl hin hd (k H locs ls hR hl hS)
theorem g_aaload3 (hX : ga_B E d y cc nL mc ms X) {a n j : Nat} {i : Int32} {f : Nat → Option Nat} (hd : decode cc pc = .ok (.aaload, 1)) (hn : pc + 1 = nx) (ha : a < M.1) (hg : ga_get M a = .inl (3, n, .inr (.inr f))) (hi : ga_ix i n j) (k : ga_G E X kc ks nx lv (ga_rf (f j) :: st) M) : ga_G E X kc ks pc lv (.int i :: .ref a :: st) M := by
  subst hn
  obtain ⟨hin, rfl⟩ := hi
  intro H locs ls hR hl hS
  have hat := hR.2.2.2 a ha
  rw [hg] at hat
  refine va_aldq (D := E.2.2.1) (tys := ga_ty E) hX.1 hX.2.1 hX.2.2.2.2.2.2.2.1.1 (ga_one hat) 0 3 rfl rfl hin hd ?_
  rw [ga_rf_v]
  exact k H locs ls hR hl hS
theorem g_aaload4 (hX : ga_B E d y cc nL mc ms X) {a n j : Nat} {i : Int32} {f : Nat → Option Nat} (hd : decode cc pc = .ok (.aaload, 1)) (hn : pc + 1 = nx) (ha : a < M.1) (hg : ga_get M a = .inl (4, n, .inr (.inr f))) (hi : ga_ix i n j) (k : ga_G E X kc ks nx lv (ga_rf (f j) :: st) M) : ga_G E X kc ks pc lv (.int i :: .ref a :: st) M := by
  subst hn
  obtain ⟨hin, rfl⟩ := hi
  intro H locs ls hR hl hS
  have hat := hR.2.2.2 a ha
  rw [hg] at hat
  refine va_aldq (D := E.2.2.1) (tys := ga_ty E) hX.1 hX.2.1 hX.2.2.2.2.2.2.2.1.1 (ga_one hat) 0 4 rfl rfl hin hd ?_
  rw [ga_rf_v]
  exact k H locs ls hR hl hS
theorem g_iastore (hX : ga_B E d y cc nL mc ms X) {a n j : Nat} {i : Int32} {x : Int32} {f : Nat → Int32} (hd : decode cc pc = .ok (.iastore, 1)) (hn : pc + 1 = nx) (ha : a < M.1) (hg : ga_get M a = .inl (0, n, .inl f)) (hi : ga_ix i n j) (k : ga_G E X kc ks nx lv st (ga_put M a (.inl (0, n, .inl (upd f j x))))) : ga_G E X kc ks pc lv (.int x :: .int i :: .ref a :: st) M := by
  subst hn
  obtain ⟨hin, rfl⟩ := hi
  intro H locs ls hR hl hS
  have hat := hR.2.2.2 a ha
  rw [hg] at hat
  have hK := hX.2.2.2.2.2.2.2.1.1
  refine W.iast hX.1 hX.2.1 hat ((hK.2 0 _ rfl).1 n (fun j => .int (f j))) (fun q => by cases q) (by show ¬ (i < 0 ∨ (arrV _ _ _).slots.size ≤ _); rw [arrV_size]; exact hin) rfl rfl hd fun H1 e1 z oq => ?_
  refine k H1 _ ls (hR.put hX.2.2.2.2.2.2.2.2.1 ha z oq ?_) hl (hS.put z oq (hX.2.2.2.2.2.2.2.2.1.2 a))
  show H1[E.2.1 a]? = some (vp_cell _ _)
  rw [e1]
  show some ((vp_cell (E.2.2.2.1 0) (n, .inl f)).setSlot _ _) = some (vp_cell (E.2.2.2.1 0) (n, _))
  rw [vp_cell_i, vp_cell_i, arrV_store]
  congr 2
  funext q
  by_cases hq : q = i.toNatClampNeg
  · subst hq; simp [updV, upd]
  · simp [updV, upd, hq]
theorem g_lastore (hX : ga_B E d y cc nL mc ms X) {a n j : Nat} {i : Int32} {x : Int64} {f : Nat → Int64} (hd : decode cc pc = .ok (.lastore, 1)) (hn : pc + 1 = nx) (ha : a < M.1) (hg : ga_get M a = .inl (1, n, .inr (.inl f))) (hi : ga_ix i n j) (k : ga_G E X kc ks nx lv st (ga_put M a (.inl (1, n, .inr (.inl (vp_updL f j x)))))) : ga_G E X kc ks pc lv (.long x :: .int i :: .ref a :: st) M := by
  subst hn
  obtain ⟨hin, rfl⟩ := hi
  intro H locs ls hR hl hS
  have hat := hR.2.2.2 a ha
  rw [hg] at hat
  have hK := hX.2.2.2.2.2.2.2.1.1
  refine W.last hX.1 hX.2.1 hat ((hK.2 1 _ rfl).1 n (fun j => .long (f j))) (fun q => by cases q) (by show ¬ (i < 0 ∨ (arrV _ _ _).slots.size ≤ _); rw [arrV_size]; exact hin) rfl rfl hd fun H1 e1 z oq => ?_
  refine k H1 _ ls (hR.put hX.2.2.2.2.2.2.2.2.1 ha z oq ?_) hl (hS.put z oq (hX.2.2.2.2.2.2.2.2.1.2 a))
  show H1[E.2.1 a]? = some (vp_cell _ _)
  rw [e1]
  show some ((vp_cell (E.2.2.2.1 1) (n, .inr (.inl f))).setSlot _ _) = some (vp_cell (E.2.2.2.1 1) (n, _))
  rw [vp_cell_l, vp_cell_l, arrV_store]
  congr 2
  funext q
  by_cases hq : q = i.toNatClampNeg
  · subst hq; simp [updV, vp_updL]
  · simp [updV, vp_updL, hq]
theorem g_zastore (hX : ga_B E d y cc nL mc ms X) {a n j : Nat} {i : Int32} {x : Int32} {f : Nat → Int32} (hd : decode cc pc = .ok (.bastore, 1)) (hn : pc + 1 = nx) (ha : a < M.1) (hg : ga_get M a = .inl (2, n, .inl f)) (hi : ga_ix i n j) (hx : narrow .boolean (.int x) = .int x) (k : ga_G E X kc ks nx lv st (ga_put M a (.inl (2, n, .inl (upd f j x))))) : ga_G E X kc ks pc lv (.int x :: .int i :: .ref a :: st) M := by
  subst hn
  obtain ⟨hin, rfl⟩ := hi
  intro H locs ls hR hl hS
  have hat := hR.2.2.2 a ha
  rw [hg] at hat
  have hK := hX.2.2.2.2.2.2.2.1.1
  refine W.zast hX.1 hX.2.1 hat ((hK.2 2 _ rfl).1 n (fun j => .int (f j))) (fun q => by cases q) (by show ¬ (i < 0 ∨ (arrV _ _ _).slots.size ≤ _); rw [arrV_size]; exact hin) rfl rfl hd fun H1 e1 z oq => ?_
  rw [hx] at e1
  refine k H1 _ ls (hR.put hX.2.2.2.2.2.2.2.2.1 ha z oq ?_) hl (hS.put z oq (hX.2.2.2.2.2.2.2.2.1.2 a))
  show H1[E.2.1 a]? = some (vp_cell _ _)
  rw [e1]
  show some ((vp_cell (E.2.2.2.1 2) (n, .inl f)).setSlot _ _) = some (vp_cell (E.2.2.2.1 2) (n, _))
  rw [vp_cell_i, vp_cell_i, arrV_store]
  congr 2
  funext q
  by_cases hq : q = i.toNatClampNeg
  · subst hq; simp [updV, upd]
  · simp [updV, upd, hq]
theorem g_aastore3 (hX : ga_B E d y cc nL mc ms X) {a v n j : Nat} {i : Int32} {fs : List Value} {f : Nat → Option Nat} (hd : decode cc pc = .ok (.aastore, 1)) (hn : pc + 1 = nx) (ha : a < M.1) (hg : ga_get M a = .inl (3, n, .inr (.inr f))) (hv : v < M.1) (hgv : ga_get M v = .inr (7, fs)) (hi : ga_ix i n j) (k : ga_G E X kc ks nx lv st (ga_put M a (.inl (3, n, .inr (.inr (va_up f j (some v))))))) : ga_G E X kc ks pc lv (.ref v :: .int i :: .ref a :: st) M := by
  subst hn
  obtain ⟨hin, rfl⟩ := hi
  intro H locs ls hR hl hS
  have hat := hR.2.2.2 a ha
  rw [hg] at hat
  have hvt := hR.2.2.2 v hv
  rw [hgv] at hvt
  have hK := hX.2.2.2.2.2.2.2.1.1
  have hlt : i.toNatClampNeg < n := Nat.not_le.mp fun q => hin (Or.inr q)
  have h0 : ¬ i < 0 := fun q => hin (Or.inl q)
  obtain ⟨r', hr', cellV, g1, g2, g3, -⟩ := hvt
  have hcls := (hK.1 7 _ rfl).2
  obtain ⟨kA, comp, k1, k2, k3, -⟩ := (hK.2 3 _ rfl).2
  have hcomp : comp = E.2.2.1.1 7 := Option.some.inj (k3.symm.trans hcls.1)
  subst hcomp
  obtain ⟨kC, hkC, -⟩ := hcls.2
  refine W.aast hX.1 hX.2.1 hat (fun q h => by cases h) (fun h => by cases h) k1 k2 rfl hkC ⟨h0, by show _ < (arrV _ _ _).slots.size; rw [arrV_size]; exact hlt⟩ g1 (fun q h => by rw [g3] at h; cases h) (by rw [g2]; exact hkC) (by rw [g2]; exact va_assign hcls) rfl rfl hd fun H1 e1 z oq => ?_
  refine k H1 _ ls (hR.put hX.2.2.2.2.2.2.2.2.1 ha z oq ?_) hl (hS.put z oq (hX.2.2.2.2.2.2.2.2.1.2 a))
  show H1[E.2.1 a]? = some (vp_cell _ _)
  rw [e1]
  show some ((vp_cell (E.2.2.2.1 3) (n, .inr (.inr (.inr (.inr (fun j => (f j).map E.2.1)))))).setSlot _ _) = some (vp_cell (E.2.2.2.1 3) (n, _))
  rw [vp_cell_q, vp_cell_q, arrV_store]
  congr 2
  funext q
  by_cases hq : q = i.toNatClampNeg
  · subst hq; simp [updV, va_up, va_rf]
  · simp [updV, va_up, hq]
theorem g_aastore4 (hX : ga_B E d y cc nL mc ms X) {a v n j : Nat} {i : Int32} {fs : List Value} {f : Nat → Option Nat} (hd : decode cc pc = .ok (.aastore, 1)) (hn : pc + 1 = nx) (ha : a < M.1) (hg : ga_get M a = .inl (4, n, .inr (.inr f))) (hv : v < M.1) (hgv : ga_get M v = .inr (0, fs)) (hi : ga_ix i n j) (k : ga_G E X kc ks nx lv st (ga_put M a (.inl (4, n, .inr (.inr (va_up f j (some v))))))) : ga_G E X kc ks pc lv (.ref v :: .int i :: .ref a :: st) M := by
  subst hn
  obtain ⟨hin, rfl⟩ := hi
  intro H locs ls hR hl hS
  have hat := hR.2.2.2 a ha
  rw [hg] at hat
  have hvt := hR.2.2.2 v hv
  rw [hgv] at hvt
  have hK := hX.2.2.2.2.2.2.2.1.1
  have hlt : i.toNatClampNeg < n := Nat.not_le.mp fun q => hin (Or.inr q)
  have h0 : ¬ i < 0 := fun q => hin (Or.inl q)
  obtain ⟨r', hr', cellV, g1, g2, g3, -⟩ := hvt
  have hcls := (hK.1 0 _ rfl).2
  obtain ⟨kA, comp, k1, k2, k3, -⟩ := (hK.2 4 _ rfl).2
  have hcomp : comp = E.2.2.1.1 0 := Option.some.inj (k3.symm.trans hcls.1)
  subst hcomp
  obtain ⟨kC, hkC, -⟩ := hcls.2
  refine W.aast hX.1 hX.2.1 hat (fun q h => by cases h) (fun h => by cases h) k1 k2 rfl hkC ⟨h0, by show _ < (arrV _ _ _).slots.size; rw [arrV_size]; exact hlt⟩ g1 (fun q h => by rw [g3] at h; cases h) (by rw [g2]; exact hkC) (by rw [g2]; exact va_assign hcls) rfl rfl hd fun H1 e1 z oq => ?_
  refine k H1 _ ls (hR.put hX.2.2.2.2.2.2.2.2.1 ha z oq ?_) hl (hS.put z oq (hX.2.2.2.2.2.2.2.2.1.2 a))
  show H1[E.2.1 a]? = some (vp_cell _ _)
  rw [e1]
  show some ((vp_cell (E.2.2.2.1 4) (n, .inr (.inr (.inr (.inr (fun j => (f j).map E.2.1)))))).setSlot _ _) = some (vp_cell (E.2.2.2.1 4) (n, _))
  rw [vp_cell_q, vp_cell_q, arrV_store]
  congr 2
  funext q
  by_cases hq : q = i.toNatClampNeg
  · subst hq; simp [updV, va_up, va_rf]
  · simp [updV, va_up, hq]
theorem g_arraylength (hX : ga_B E d y cc nL mc ms X) {a n : Nat} {f : Nat → Int32} (hd : decode cc pc = .ok (.arraylength, 1)) (hn : pc + 1 = nx) (ha : a < M.1) (hg : ga_get M a = .inl (0, n, .inl f)) (k : ga_G E X kc ks nx lv (.int (nI n) :: st) M) : ga_G E X kc ks pc lv (.ref a :: st) M := by
  subst hn
  intro H locs ls hR hl hS
  have hat := hR.2.2.2 a ha
  rw [hg] at hat
  exact va_alen (D := E.2.2.1) (tys := ga_ty E) hX.1 hX.2.1 hX.2.2.2.2.2.2.2.1.1 (ga_one hat) 0 rfl (ty := .int) (t0 := 0) rfl rfl hd (k H locs ls hR hl hS)
theorem g_newarray_int (hX : ga_B E d y cc nL mc ms X) {i : Int32} (N : Nat) (hd : decode cc pc = .ok (.newarray .int, 2)) (hn : pc + 2 = nx) (hw : Cond.arrayClass .int ∈ ga_T) (hi : ¬ i < 0) (hN : i.toNatClampNeg = N) (hb : N * componentBytes .int ≤ 536870912) (hc : kc + 1 ≤ mc) (hs : ks + N ≤ ms) (hid : E.2.1 M.1 = E.1 + M.1) (k : ga_G E X (kc + 1) (ks + N) nx lv (.ref M.1 :: st) (ga_new M (.inl (0, N, .inl (fun _ => 0))))) : ga_G E X kc ks pc lv (.int i :: st) M := by
  subst hn
  intro H locs ls hR hl hS
  have hK := hX.2.2.2.2.2.2.2.1.1
  refine va_newaK (atype := .int) hX.1 hX.2.1 (hX.2.2.2.2.1 _ hw) rfl hd rfl hi hN hb (Nat.le_trans hc hX.2.2.2.2.2.2.2.2.2.2.2.1) (Nat.le_trans hs hX.2.2.2.2.2.2.2.2.2.2.2.2) rfl fun H1 cA e1 z1 o1 hAr hNm => ?_
  have hcA : cA = E.2.2.2.1 0 := Option.some.inj (hNm.symm.trans (hK.2 0 _ rfl).2)
  subst hcA
  have hsz : H.size = E.2.1 M.1 := by rw [hid]; exact hR.1
  have k9 := k H1 locs ls (hR.new hX.2.2.2.2.2.2.2.2.1 hid z1 o1 e1) hl ⟨Nat.le_trans hS.1 (by omega), fun x h1 h2 => (o1 x (Nat.lt_of_lt_of_le h1 hS.1)).trans (hS.2.1 x h1 h2), hS.2.2⟩
  rw [hsz]
  exact k9
theorem g_newarray_long (hX : ga_B E d y cc nL mc ms X) {i : Int32} (N : Nat) (hd : decode cc pc = .ok (.newarray .long, 2)) (hn : pc + 2 = nx) (hw : Cond.arrayClass .long ∈ ga_T) (hi : ¬ i < 0) (hN : i.toNatClampNeg = N) (hb : N * componentBytes .long ≤ 536870912) (hc : kc + 1 ≤ mc) (hs : ks + N ≤ ms) (hid : E.2.1 M.1 = E.1 + M.1) (k : ga_G E X (kc + 1) (ks + N) nx lv (.ref M.1 :: st) (ga_new M (.inl (1, N, .inr (.inl (fun _ => 0)))))) : ga_G E X kc ks pc lv (.int i :: st) M := by
  subst hn
  intro H locs ls hR hl hS
  have hK := hX.2.2.2.2.2.2.2.1.1
  refine va_newaK (atype := .long) hX.1 hX.2.1 (hX.2.2.2.2.1 _ hw) rfl hd rfl hi hN hb (Nat.le_trans hc hX.2.2.2.2.2.2.2.2.2.2.2.1) (Nat.le_trans hs hX.2.2.2.2.2.2.2.2.2.2.2.2) rfl fun H1 cA e1 z1 o1 hAr hNm => ?_
  have hcA : cA = E.2.2.2.1 1 := Option.some.inj (hNm.symm.trans (hK.2 1 _ rfl).2)
  subst hcA
  have hsz : H.size = E.2.1 M.1 := by rw [hid]; exact hR.1
  have k9 := k H1 locs ls (hR.new hX.2.2.2.2.2.2.2.2.1 hid z1 o1 e1) hl ⟨Nat.le_trans hS.1 (by omega), fun x h1 h2 => (o1 x (Nat.lt_of_lt_of_le h1 hS.1)).trans (hS.2.1 x h1 h2), hS.2.2⟩
  rw [hsz]
  exact k9
theorem g_newarray_boolean (hX : ga_B E d y cc nL mc ms X) {i : Int32} (N : Nat) (hd : decode cc pc = .ok (.newarray .boolean, 2)) (hn : pc + 2 = nx) (hw : Cond.arrayClass .boolean ∈ ga_T) (hi : ¬ i < 0) (hN : i.toNatClampNeg = N) (hb : N * componentBytes .boolean ≤ 536870912) (hc : kc + 1 ≤ mc) (hs : ks + N ≤ ms) (hid : E.2.1 M.1 = E.1 + M.1) (k : ga_G E X (kc + 1) (ks + N) nx lv (.ref M.1 :: st) (ga_new M (.inl (2, N, .inl (fun _ => 0))))) : ga_G E X kc ks pc lv (.int i :: st) M := by
  subst hn
  intro H locs ls hR hl hS
  have hK := hX.2.2.2.2.2.2.2.1.1
  refine va_newaK (atype := .boolean) hX.1 hX.2.1 (hX.2.2.2.2.1 _ hw) rfl hd rfl hi hN hb (Nat.le_trans hc hX.2.2.2.2.2.2.2.2.2.2.2.1) (Nat.le_trans hs hX.2.2.2.2.2.2.2.2.2.2.2.2) rfl fun H1 cA e1 z1 o1 hAr hNm => ?_
  have hcA : cA = E.2.2.2.1 2 := Option.some.inj (hNm.symm.trans (hK.2 2 _ rfl).2)
  subst hcA
  have hsz : H.size = E.2.1 M.1 := by rw [hid]; exact hR.1
  have k9 := k H1 locs ls (hR.new hX.2.2.2.2.2.2.2.2.1 hid z1 o1 e1) hl ⟨Nat.le_trans hS.1 (by omega), fun x h1 h2 => (o1 x (Nat.lt_of_lt_of_le h1 hS.1)).trans (hS.2.1 x h1 h2), hS.2.2⟩
  rw [hsz]
  exact k9
theorem g_anewarray3 (hX : ga_B E d y cc nL mc ms X) {i : Int32} {idx : Nat} (N : Nat) (hd : decode cc pc = .ok (.anewarray idx, 3)) (hn : pc + 3 = nx) (hw : Cond.classLink y.cls idx "ThreeDays$Sheet" ∈ ga_T) (hi : ¬ i < 0) (hN : i.toNatClampNeg = N) (hb : N * 4 ≤ 536870912) (hc : kc + 1 ≤ mc) (hs : ks + N ≤ ms) (hid : E.2.1 M.1 = E.1 + M.1) (k : ga_G E X (kc + 1) (ks + N) nx lv (.ref M.1 :: st) (ga_new M (.inl (3, N, .inr (.inr (fun _ => none)))))) : ga_G E X kc ks pc lv (.int i :: st) M := by
  subst hn
  subst hN
  intro H locs ls hR hl hS
  have hK := hX.2.2.2.2.2.2.2.1.1
  refine W.anew hX.1 hX.2.1 hX.2.2.2.1 (hX.2.2.2.2.1 _ hw) (va_AO.use hX.2.2.2.2.2.2.2.1.2.2.1) rfl hd rfl hi hb (Nat.le_trans hc hX.2.2.2.2.2.2.2.2.2.2.2.1) (Nat.le_trans hs hX.2.2.2.2.2.2.2.2.2.2.2.2) fun cA kA comp f1 f2 f3 f4 => ?_
  generalize hH1 : H.push ({ cls := cA, slots := Array.replicate i.toNatClampNeg .null, vm := .none } : Cell) = H1
  have z1 : H1.size = H.size + 1 := by rw [← hH1, Array.size_push]
  have e1 : H1[H.size]? = some (arrV cA i.toNatClampNeg (fun _ => .null)) := by rw [← hH1, Array.getElem?_push_size, ← arrV_new]
  have o1 : ∀ q : Nat, q < H.size → H1[q]? = H[q]? := fun q hq => by rw [← hH1, Array.getElem?_push, if_neg (Nat.ne_of_lt hq)]
  obtain ⟨_, _, _, _, _, hNm⟩ := (hK.2 3 _ rfl).2
  have hcA : cA = E.2.2.2.1 3 := Option.some.inj (f1.symm.trans hNm)
  subst hcA
  have hsz : H.size = E.2.1 M.1 := by rw [hid]; exact hR.1
  have k9 := k H1 locs ls (hR.new hX.2.2.2.2.2.2.2.2.1 hid z1 o1 e1) hl ⟨Nat.le_trans hS.1 (by omega), fun x h1 h2 => (o1 x (Nat.lt_of_lt_of_le h1 hS.1)).trans (hS.2.1 x h1 h2), hS.2.2⟩
  rw [hsz]
  exact k9
theorem g_anewarray4 (hX : ga_B E d y cc nL mc ms X) {i : Int32} {idx : Nat} (N : Nat) (hd : decode cc pc = .ok (.anewarray idx, 3)) (hn : pc + 3 = nx) (hw : Cond.classLink y.cls idx "ThreeDays$Act" ∈ ga_T) (hi : ¬ i < 0) (hN : i.toNatClampNeg = N) (hb : N * 4 ≤ 536870912) (hc : kc + 1 ≤ mc) (hs : ks + N ≤ ms) (hid : E.2.1 M.1 = E.1 + M.1) (k : ga_G E X (kc + 1) (ks + N) nx lv (.ref M.1 :: st) (ga_new M (.inl (4, N, .inr (.inr (fun _ => none)))))) : ga_G E X kc ks pc lv (.int i :: st) M := by
  subst hn
  subst hN
  intro H locs ls hR hl hS
  have hK := hX.2.2.2.2.2.2.2.1.1
  refine W.anew hX.1 hX.2.1 hX.2.2.2.1 (hX.2.2.2.2.1 _ hw) (va_AO.use hX.2.2.2.2.2.2.2.1.2.2.2) rfl hd rfl hi hb (Nat.le_trans hc hX.2.2.2.2.2.2.2.2.2.2.2.1) (Nat.le_trans hs hX.2.2.2.2.2.2.2.2.2.2.2.2) fun cA kA comp f1 f2 f3 f4 => ?_
  generalize hH1 : H.push ({ cls := cA, slots := Array.replicate i.toNatClampNeg .null, vm := .none } : Cell) = H1
  have z1 : H1.size = H.size + 1 := by rw [← hH1, Array.size_push]
  have e1 : H1[H.size]? = some (arrV cA i.toNatClampNeg (fun _ => .null)) := by rw [← hH1, Array.getElem?_push_size, ← arrV_new]
  have o1 : ∀ q : Nat, q < H.size → H1[q]? = H[q]? := fun q hq => by rw [← hH1, Array.getElem?_push, if_neg (Nat.ne_of_lt hq)]
  obtain ⟨_, _, _, _, _, hNm⟩ := (hK.2 4 _ rfl).2
  have hcA : cA = E.2.2.2.1 4 := Option.some.inj (f1.symm.trans hNm)
  subst hcA
  have hsz : H.size = E.2.1 M.1 := by rw [hid]; exact hR.1
  have k9 := k H1 locs ls (hR.new hX.2.2.2.2.2.2.2.2.1 hid z1 o1 e1) hl ⟨Nat.le_trans hS.1 (by omega), fun x h1 h2 => (o1 x (Nat.lt_of_lt_of_le h1 hS.1)).trans (hS.2.1 x h1 h2), hS.2.2⟩
  rw [hsz]
  exact k9
theorem g_new (hX : ga_B E d y cc nL mc ms X) {idx ci : Nat} {r : vw_C} (fs : List Value) (hd : decode cc pc = .ok (.new idx, 3)) (hn : pc + 3 = nx) (hr : vwCl[ci]? = some r) (hw : Cond.classLink y.cls idx r.1 ∈ ga_T) (hw2 : Cond.instantiable r.1 r.2.2 ∈ ga_T) (hw3 : Cond.initialized r.1 ∈ ga_T) (hfs : ∀ j, j < r.2.2 → ∃ t, parseFieldDescriptor (r.2.1 j).2.2.1 = some t ∧ defaultValue t = vp_V (fs.map (ga_v E)) j) (hc : kc + 1 ≤ mc) (hs : ks + r.2.2 ≤ ms) (hid : E.2.1 M.1 = E.1 + M.1) (k : ga_G E X (kc + 1) (ks + r.2.2) nx lv (.ref M.1 :: st) (ga_new M (.inr (ci, fs)))) : ga_G E X kc ks pc lv st M := by
  subst hn
  intro H locs ls hR hl hS
  have hts := hX.2.2.2.2.1
  have hK := hX.2.2.2.2.2.2.2.1.1
  obtain ⟨ty0, hty0, hnm⟩ := ga_cls ci r hr
  have hKn := hK.1 ci _ hr
  refine W.newcK hX.1 hX.2.1 hX.2.2.2.1 (hts _ hw) (hts _ hw2) (hts _ hw3) rfl hd (Nat.le_trans hc hX.2.2.2.2.2.2.2.2.2.2.2.1) (Nat.le_trans hs hX.2.2.2.2.2.2.2.2.2.2.2.2) hKn.2.1 rfl fun H1 kC hkC e1 z1 o1 => ?_
  have hsz : H.size = E.2.1 M.1 := by rw [hid]; exact hR.1
  have k9 := k H1 locs ls (hR.new hX.2.2.2.2.2.2.2.2.1 hid z1 o1 ⟨r, hr, (u_born ty0 hts (ga_wsin ci r hr) hKn hkC e1 hty0).to (fun j hj => by
    obtain ⟨t, ht, e⟩ := hfs j hj
    rw [hty0 j hj] at ht
    cases ht
    exact e)⟩) hl ⟨Nat.le_trans hS.1 (by omega), fun x h1 h2 => (o1 x (Nat.lt_of_lt_of_le h1 hS.1)).trans (hS.2.1 x h1 h2), hS.2.2⟩
  have k10 : F0 X.2.2.2.2.2.1 (pc + 3) ls ((Value.ref M.1 :: st).map (ga_v E)) = F0 X.2.2.2.2.2.1 (pc + 3) ls (.ref H.size :: st.map (ga_v E)) := by rw [hsz]; rfl
  rw [k10] at k9
  exact k9
theorem g_objInit (hX : ga_B E d y cc nL mc ms X) {idx a : Nat} (hd : decode cc pc = .ok (.invokespecial idx, 3)) (hn : pc + 3 = nx) (hw : Cond.methodLink y.cls idx Lib.objectInit ∈ ga_T) (hw2 : Cond.instanceMethod Lib.objectInit ∈ ga_T) (hw3 : Cond.code Lib.objectInit ⟨#[0xb1]⟩ 1 none ∈ ga_T) (hfr : 1 ≤ d) (hst : Nat.ble (ga_wd st) 8 = true) (k : ga_G E X kc ks nx lv st M) : ga_G E X kc ks pc lv (.ref a :: st) M := by
  subst hn
  intro H locs ls hR hl hS
  have hts := hX.2.2.2.2.1
  have hsum : ∀ s : List Value, ((s.map (ga_v E)).map fun v => v.category).sum = ga_wd s := by
    intro s
    induction s with
    | nil => rfl
    | cons v t ih => simp only [List.map_cons, List.sum_cons, ga_v_cat, ga_wd]; rw [ih]
  refine W.objInit hX.1 hX.2.1 hX.2.2.2.1 (hts _ hw) (hts _ hw2) (hts _ hw3) rfl hl.1 rfl hd (Nat.le_trans hfr hX.2.2.2.2.2.2.2.2.2.1) ?_ (k H locs ls hR hl hS)
  have h8 : ga_wd st ≤ 8 := Nat.le_of_ble_eq_true hst
  have h60 := hX.2.2.2.2.2.2.2.2.2.2.1
  rw [hsum]
  have : 2 * JFrame.monitorRoom (F0 X.2.2.2.2.2.1 pc ls (List.map (ga_v E) (Value.ref a :: st))) = 0 := by simp [JFrame.monitorRoom]
  omega
end
end
section
/-! ===== CALLS ===== -/
def ga_Yb (y : MethodName) (cc : ByteArray) (nL : Nat) (rt : Option FieldType) (n : Nat) : Prop := Cond.initialized y.cls ∈ ga_T ∧ Cond.code y cc nL rt ∈ ga_T ∧ (y.cls ≠ "java/lang/invoke/MethodHandle" ∧ y.cls ≠ "java/lang/invoke/VarHandle" ∧ (parseMethodDescriptor y.desc).map (fun d => d.parameters.length) = some n) ∧ nL ≤ 41
def ga_Yv (y : MethodName) (cc : ByteArray) (nL : Nat) (rt : Option FieldType) (n : Nat) : Prop := ga_Yb y cc nL rt n ∧ Cond.instanceMethod y ∈ ga_T ∧ Cond.selects y.cls y y ∈ ga_T
def ga_Ys (y : MethodName) (cc : ByteArray) (nL : Nat) (rt : Option FieldType) (n : Nat) : Prop := ga_Yb y cc nL rt n ∧ Cond.static y ∈ ga_T
def ga_Yi (y : MethodName) (cc : ByteArray) (nL : Nat) (n : Nat) : Prop := ga_Yb y cc nL none n ∧ y.name = "<init>" ∧ Cond.instanceMethod y ∈ ga_T
abbrev ga_Mx (E : ga_E) (d : Nat) (y : MethodName) (cc : ByteArray) (nL : Nat) (rt : Option FieldType) (mc ms : Nat) (as : List Value) (M : ga_M) (r : Option Value) (M' : ga_M) : Prop := ga_Mt E d y cc nL rt mc ms as M (fun r0 M0 => r0 = r ∧ M0 = M')
theorem ga_blind (E : ga_E) (as : List Value) (M : ga_M) : FrameBlind (ga_Pc E as M) := fun a U g mk h => ⟨h.1, h.2.1, ga_K.same rfl h.2.2.1, h.2.2.2⟩
theorem ga_sum (E : ga_E) (s : List Value) : ((s.map (ga_v E)).map fun v => v.category).sum = ga_wd s := by
  induction s with
  | nil => rfl
  | cons v t ih => simp only [List.map_cons, List.sum_cons, ga_v_cat, ga_wd]; rw [ih]
theorem ga_gin {y : MethodName} {cc : ByteArray} {nL n : Nat} {rt : Option FieldType} (h : ga_Yb y cc nL rt n) : GoodIn ga_T (Cond.code y cc nL rt :: ga_T) := fun w hw => by
  rcases List.mem_cons.mp hw with rfl | hw
  · exact ⟨h.2.1, good_of_word (List.mem_filter.mp h.2.1).2⟩
  · exact ⟨hw, good_of_word (List.mem_filter.mp hw).2⟩
section
variable {p : Program} {l : Launch} {e : Env} {R : Room} {s : State} {m : MethodId} {args : Array Value} {below : List Frame} {meth : Method} {c : Code} {H : Heap} {locs : List Loc} {cells slots : Nat} {Q : State → Prop}
theorem ga_ran {E : ga_E} {Post : Option Value → ga_M → Prop} {mc ms pc : Nat} {ls : Array Slot} {st0 rest : List Value} {a : Array Value} (hr : va_Run p l e R s m args below meth c H locs cells slots mc ms (F0 m pc ls st0) rest (ga_Q E Post a) (fun q => E.1 ≤ q)) (hS : va_S (fun q => E.1 ≤ q) s.heap H locs)
    (kk : ∀ (r : Option Value) (M : ga_M) (H1 : Heap) (locs1 : List Loc), Post r M → ga_R E M H1 → va_S (fun q => E.1 ≤ q) s.heap H1 locs1 → W p l e R s m args below meth c H1 locs1 (cells + mc) (slots + ms) Q (F0 m (pc + 3) ls ((r.map (ga_v E)).toList ++ rest))) : W p l e R s m args below meth c H locs cells slots Q (F0 m pc ls st0) := by
  intro T hT X
  obtain ⟨v, st₀, t, T', L, h0, X', hL, e1, e2, ⟨r, M, hv, hp, hR, hz, hk⟩, st⟩ := hr T hT X
  cases hv
  rw [h0] at hz hk
  obtain ⟨t2, a1, b1⟩ := kk r M T'.heap (locs ++ L) hp (by rw [e1]; exact hR)
    ⟨Nat.le_trans hS.1 (by rw [e1]; exact hz), fun q h1 h2 => by rw [e1, hk q (Nat.lt_of_lt_of_le h1 hS.1) h2]; exact hS.2.1 q h1 h2, fun q hq => by
      rcases List.mem_append.mp hq with h | h
      · exact hS.2.2 q h
      · exact hL q h⟩ T' rfl X'
  exact ⟨t2, st t2 a1, b1⟩
end
section
variable {E : ga_E} {X : ga_X} {d nL mc ms kc ks pc nx : Nat} {y : MethodName} {cc : ByteArray} {lv : List (Option Value)} {st st0 : List Value} {M : ga_M}
variable {y' : MethodName} {cc' : ByteArray} {nL' n d' mc' ms' idx : Nat} {rt' : Option FieldType} {As : List Value} {Post : Option Value → ga_M → Prop}
theorem ga_room (hX : ga_B E d y cc nL mc ms X) (h : ga_Yb y' cc' nL' rt' n) (hd' : d' + 1 ≤ d) : (ga_rm d' mc' ms').frames + 1 ≤ X.2.2.2.1.frames ∧ 8 + (nL' + 11) + (ga_rm d' mc' ms').locals ≤ X.2.2.2.1.locals := by
  have h1 := hX.2.2.2.2.2.2.2.2.2.1
  have h2 := hX.2.2.2.2.2.2.2.2.2.2.1
  have h3 := h.2.2.2
  exact ⟨Nat.le_trans hd' h1, by show 8 + (nL' + 11) + 60 * d' ≤ _; omega⟩
theorem ga_fits (hX : ga_B E d y cc nL mc ms X) (h1 : kc + mc' ≤ mc) (h2 : ks + ms' ≤ ms) : kc + mc' ≤ X.2.2.2.1.cells ∧ ks + ms' ≤ X.2.2.2.1.slots := ⟨Nat.le_trans h1 hX.2.2.2.2.2.2.2.2.2.2.2.1, Nat.le_trans h2 hX.2.2.2.2.2.2.2.2.2.2.2.2⟩
theorem ga_8 {m : MethodId} {ls : Array Slot} {stk : List Value} (h : Nat.ble (ga_wd st) 8 = true) : 2 * (F0 m pc ls stk).monitorRoom + ((st.map (ga_v E)).map fun v => v.category).sum ≤ 8 := by
  rw [ga_sum]
  have h8 : ga_wd st ≤ 8 := Nat.le_of_ble_eq_true h
  have : 2 * JFrame.monitorRoom (F0 m pc ls stk) = 0 := by simp [JFrame.monitorRoom]
  omega
theorem ga_puv (r : Option Value) : (r.map (ga_v E)).toList ++ st.map (ga_v E) = (ga_pu r st).map (ga_v E) := by cases r <;> rfl
theorem g_callV (hX : ga_B E d y cc nL mc ms X) {a ci : Nat} {r : vw_C} {fs : List Value} (hd : decode cc pc = .ok (.invokevirtual idx, 3)) (hn : pc + 3 = nx) (hl : Cond.methodLink y.cls idx y' ∈ ga_T) (hy : ga_Yv y' cc' nL' rt' n) (hm : ga_Mt E d' y' cc' nL' rt' mc' ms' (.ref a :: As) M Post) (hAs : As.length = n) (ha : a < M.1) (hg : ga_get M a = .inr (ci, fs)) (hr : vwCl[ci]? = some r) (hrn : r.1 = y'.cls) (hst : st0 = As.reverse ++ .ref a :: st) (hd' : d' + 1 ≤ d) (hw : Nat.ble (ga_wd st) 8 = true) (hc : kc + mc' ≤ mc) (hs : ks + ms' ≤ ms)
    (k : ∀ (r : Option Value) (M' : ga_M), Post r M' → ga_G E X (kc + mc') (ks + ms') nx lv (ga_pu r st) M') : ga_G E X kc ks pc lv st0 M := by
  subst hn
  subst hst
  intro H locs ls hR hlv hS
  have hat := hR.2.2.2 a ha
  rw [hg] at hat
  have hts := hX.2.2.2.2.1
  have hK := hX.2.2.2.2.2.2.2.1
  refine ga_ran (Post := Post) (va_runV (As := As.map (ga_v E)) (rest := st.map (ga_v E)) (b := E.2.1 a) (C := y'.cls) ⟨hX.1, hX.2.1, hX.2.2.1, hX.2.2.2.1, hts⟩ (hm X.2.1) ⟨callB_of n hts (ga_gin hy.1) rfl rfl rfl (hts _ hy.1.1) (hts _ hl) hy.1.2.2.1 (ga_room hX hy.1 hd'), hts _ hy.2.1, hts _ hy.2.2⟩ ⟨ga_blind E _ M, by have := va_recv (q0 := 0) hK.1 (ga_one hat) hr rfl; rw [hrn] at this; exact this, fun U hU hW => ⟨rfl, by rw [hU]; exact hR, hK.moved hW, hX.2.2.2.2.2.2.2.2.1⟩⟩ rfl (by rw [List.length_map]; exact hAs) (hlv.1.trans hX.2.2.1) (by simp [List.map_append, List.map_reverse]; rfl) (ga_8 hw) hd (ga_fits hX hc hs)) hS (fun r M' H1 locs1 hp hR1 hS1 => ?_)
  rw [ga_puv]
  exact k r M' hp H1 locs1 ls hR1 hlv hS1
theorem g_callS (hX : ga_B E d y cc nL mc ms X) (hd : decode cc pc = .ok (.invokestatic idx, 3)) (hn : pc + 3 = nx) (hl : Cond.methodLink y.cls idx y' ∈ ga_T) (hy : ga_Ys y' cc' nL' rt' n) (hm : ga_Mt E d' y' cc' nL' rt' mc' ms' As M Post) (hAs : As.length = n) (hst : st0 = As.reverse ++ st) (hd' : d' + 1 ≤ d) (hw : Nat.ble (ga_wd st) 8 = true) (hc : kc + mc' ≤ mc) (hs : ks + ms' ≤ ms)
    (k : ∀ (r : Option Value) (M' : ga_M), Post r M' → ga_G E X (kc + mc') (ks + ms') nx lv (ga_pu r st) M') : ga_G E X kc ks pc lv st0 M := by
  subst hn
  subst hst
  intro H locs ls hR hlv hS
  have hts := hX.2.2.2.2.1
  have hK := hX.2.2.2.2.2.2.2.1
  refine ga_ran (Post := Post) (va_runS (As := As.map (ga_v E)) (rest := st.map (ga_v E)) ⟨hX.1, hX.2.1, hX.2.2.1, hX.2.2.2.1, hts⟩ (hm X.2.1) ⟨callB_of n hts (ga_gin hy.1) rfl rfl rfl (hts _ hy.1.1) (hts _ hl) hy.1.2.2.1 (ga_room hX hy.1 hd'), hts _ hy.2⟩ ⟨ga_blind E _ M, fun U hU hW => ⟨rfl, by rw [hU]; exact hR, hK.moved hW, hX.2.2.2.2.2.2.2.2.1⟩⟩ rfl (by rw [List.length_map]; exact hAs) (hlv.1.trans hX.2.2.1) (by simp [List.map_append, List.map_reverse]) (ga_8 hw) hd (ga_fits hX hc hs)) hS (fun r M' H1 locs1 hp hR1 hS1 => ?_)
  rw [ga_puv]
  exact k r M' hp H1 locs1 ls hR1 hlv hS1
theorem g_callSN (hX : ga_B E d y cc nL mc ms X) {host : String} (hd : decode cc pc = .ok (.invokestatic idx, 3)) (hn : pc + 3 = nx) (hl : (y.cls, idx, y', host) ∈ ga_nest) (hy : ga_Ys y' cc' nL' rt' n) (hm : ga_Mt E d' y' cc' nL' rt' mc' ms' As M Post) (hAs : As.length = n) (hst : st0 = As.reverse ++ st) (hd' : d' + 1 ≤ d) (hw : Nat.ble (ga_wd st) 8 = true) (hc : kc + mc' ≤ mc) (hs : ks + ms' ≤ ms)
    (k : ∀ (r : Option Value) (M' : ga_M), Post r M' → ga_G E X (kc + mc') (ks + ms') nx lv (ga_pu r st) M') : ga_G E X kc ks pc lv st0 M := by
  subst hn
  subst hst
  intro H locs ls hR hlv hS
  have hts := hX.2.2.2.2.1
  have hK := hX.2.2.2.2.2.2.2.1
  refine ga_ran (Post := Post) (va_runSN (As := As.map (ga_v E)) (rest := st.map (ga_v E)) ⟨hX.1, hX.2.1, hX.2.2.1, hX.2.2.2.1, hts⟩ (hm X.2.1) ⟨va_cnB n hts (ga_gin hy.1) rfl rfl rfl (hK.2.1 _ hl) (hts _ hy.1.1) hy.1.2.2.1 (ga_room hX hy.1 hd'), hts _ hy.2, trivial⟩ ⟨ga_blind E _ M, fun U hU hW => ⟨rfl, by rw [hU]; exact hR, hK.moved hW, hX.2.2.2.2.2.2.2.2.1⟩⟩ rfl (by rw [List.length_map]; exact hAs) (hlv.1.trans hX.2.2.1) (by simp [List.map_append, List.map_reverse]) (ga_8 hw) hd (ga_fits hX hc hs)) hS (fun r M' H1 locs1 hp hR1 hS1 => ?_)
  rw [ga_puv]
  exact k r M' hp H1 locs1 ls hR1 hlv hS1
theorem g_callI (hX : ga_B E d y cc nL mc ms X) {a : Nat} (hd : decode cc pc = .ok (.invokespecial idx, 3)) (hn : pc + 3 = nx) (hl : Cond.methodLink y.cls idx y' ∈ ga_T) (hy : ga_Yi y' cc' nL' n) (hm : ga_Mt E d' y' cc' nL' none mc' ms' (.ref a :: As) M Post) (hAs : As.length = n) (hst : st0 = As.reverse ++ .ref a :: st) (hd' : d' + 1 ≤ d) (hw : Nat.ble (ga_wd st) 8 = true) (hc : kc + mc' ≤ mc) (hs : ks + ms' ≤ ms)
    (k : ∀ (r : Option Value) (M' : ga_M), Post r M' → ga_G E X (kc + mc') (ks + ms') nx lv (ga_pu r st) M') : ga_G E X kc ks pc lv st0 M := by
  subst hn
  subst hst
  intro H locs ls hR hlv hS
  have hts := hX.2.2.2.2.1
  have hK := hX.2.2.2.2.2.2.2.1
  refine ga_ran (Post := Post) (va_runI (As := As.map (ga_v E)) (rest := st.map (ga_v E)) (b := E.2.1 a) ⟨hX.1, hX.2.1, hX.2.2.1, hX.2.2.2.1, hts⟩ (hm X.2.1) ⟨callB_of n hts (ga_gin hy.1) rfl rfl rfl (hts _ hy.1.1) (hts _ hl) hy.1.2.2.1 (ga_room hX hy.1 hd'), hy.2.1, hts _ hy.2.2⟩ ⟨ga_blind E _ M, fun U hU hW => ⟨rfl, by rw [hU]; exact hR, hK.moved hW, hX.2.2.2.2.2.2.2.2.1⟩⟩ rfl (by rw [List.length_map]; exact hAs) (hlv.1.trans hX.2.2.1) (by simp [List.map_append, List.map_reverse]; rfl) (ga_8 hw) hd (ga_fits hX hc hs)) hS (fun r M' H1 locs1 hp hR1 hS1 => ?_)
  rw [ga_puv]
  exact k r M' hp H1 locs1 ls hR1 hlv hS1
theorem g_callIN (hX : ga_B E d y cc nL mc ms X) {a : Nat} {host : String} (hd : decode cc pc = .ok (.invokespecial idx, 3)) (hn : pc + 3 = nx) (hl : (y.cls, idx, y', host) ∈ ga_nest) (hy : ga_Yi y' cc' nL' n) (hm : ga_Mt E d' y' cc' nL' none mc' ms' (.ref a :: As) M Post) (hAs : As.length = n) (hst : st0 = As.reverse ++ .ref a :: st) (hd' : d' + 1 ≤ d) (hw : Nat.ble (ga_wd st) 8 = true) (hc : kc + mc' ≤ mc) (hs : ks + ms' ≤ ms)
    (k : ∀ (r : Option Value) (M' : ga_M), Post r M' → ga_G E X (kc + mc') (ks + ms') nx lv (ga_pu r st) M') : ga_G E X kc ks pc lv st0 M := by
  subst hn
  subst hst
  intro H locs ls hR hlv hS
  have hts := hX.2.2.2.2.1
  have hK := hX.2.2.2.2.2.2.2.1
  refine ga_ran (Post := Post) (va_runIN (As := As.map (ga_v E)) (rest := st.map (ga_v E)) (b := E.2.1 a) ⟨hX.1, hX.2.1, hX.2.2.1, hX.2.2.2.1, hts⟩ (hm X.2.1) ⟨va_cnB n hts (ga_gin hy.1) rfl rfl rfl (hK.2.1 _ hl) (hts _ hy.1.1) hy.1.2.2.1 (ga_room hX hy.1 hd'), hy.2.1, hts _ hy.2.2⟩ ⟨ga_blind E _ M, fun U hU hW => ⟨rfl, by rw [hU]; exact hR, hK.moved hW, hX.2.2.2.2.2.2.2.2.1⟩⟩ rfl (by rw [List.length_map]; exact hAs) (hlv.1.trans hX.2.2.1) (by simp [List.map_append, List.map_reverse]; rfl) (ga_8 hw) hd (ga_fits hX hc hs)) hS (fun r M' H1 locs1 hp hR1 hS1 => ?_)
  rw [ga_puv]
  exact k r M' hp H1 locs1 ls hR1 hlv hS1
theorem g_V0 (hX : ga_B E d y cc nL mc ms X) {a ci : Nat} {r : vw_C} {fs : List Value} (hd : decode cc pc = .ok (.invokevirtual idx, 3)) (hn : pc + 3 = nx) (hl : Cond.methodLink y.cls idx y' ∈ ga_T) (hy : ga_Yv y' cc' nL' rt' 0) (hm : ga_Mt E d' y' cc' nL' rt' mc' ms' (.ref a :: []) M Post) (ha : a < M.1) (hg : ga_get M a = .inr (ci, fs)) (hr : vwCl[ci]? = some r) (hrn : r.1 = y'.cls) (hd' : d' + 1 ≤ d) (hw : Nat.ble (ga_wd st) 8 = true) (hc : kc + mc' ≤ mc) (hs : ks + ms' ≤ ms) (k : ∀ (r : Option Value) (M' : ga_M), Post r M' → ga_G E X (kc + mc') (ks + ms') nx lv (ga_pu r st) M') : ga_G E X kc ks pc lv (.ref a :: st) M :=
  g_callV (As := []) hX hd hn hl hy hm rfl ha hg hr hrn rfl hd' hw hc hs k
theorem g_I0 (hX : ga_B E d y cc nL mc ms X) {a : Nat} (hd : decode cc pc = .ok (.invokespecial idx, 3)) (hn : pc + 3 = nx) (hl : Cond.methodLink y.cls idx y' ∈ ga_T) (hy : ga_Yi y' cc' nL' 0) (hm : ga_Mt E d' y' cc' nL' none mc' ms' (.ref a :: []) M Post) (hd' : d' + 1 ≤ d) (hw : Nat.ble (ga_wd st) 8 = true) (hc : kc + mc' ≤ mc) (hs : ks + ms' ≤ ms) (k : ∀ (r : Option Value) (M' : ga_M), Post r M' → ga_G E X (kc + mc') (ks + ms') nx lv (ga_pu r st) M') : ga_G E X kc ks pc lv (.ref a :: st) M :=
  g_callI (As := []) hX hd hn hl hy hm rfl rfl hd' hw hc hs k
theorem g_IN0 (hX : ga_B E d y cc nL mc ms X) {a : Nat} {host : String} (hd : decode cc pc = .ok (.invokespecial idx, 3)) (hn : pc + 3 = nx) (hl : (y.cls, idx, y', host) ∈ ga_nest) (hy : ga_Yi y' cc' nL' 0) (hm : ga_Mt E d' y' cc' nL' none mc' ms' (.ref a :: []) M Post) (hd' : d' + 1 ≤ d) (hw : Nat.ble (ga_wd st) 8 = true) (hc : kc + mc' ≤ mc) (hs : ks + ms' ≤ ms) (k : ∀ (r : Option Value) (M' : ga_M), Post r M' → ga_G E X (kc + mc') (ks + ms') nx lv (ga_pu r st) M') : ga_G E X kc ks pc lv (.ref a :: st) M :=
  g_callIN (As := []) hX hd hn hl hy hm rfl rfl hd' hw hc hs k
theorem g_S0 (hX : ga_B E d y cc nL mc ms X) (hd : decode cc pc = .ok (.invokestatic idx, 3)) (hn : pc + 3 = nx) (hl : Cond.methodLink y.cls idx y' ∈ ga_T) (hy : ga_Ys y' cc' nL' rt' 0) (hm : ga_Mt E d' y' cc' nL' rt' mc' ms' [] M Post) (hd' : d' + 1 ≤ d) (hw : Nat.ble (ga_wd st) 8 = true) (hc : kc + mc' ≤ mc) (hs : ks + ms' ≤ ms) (k : ∀ (r : Option Value) (M' : ga_M), Post r M' → ga_G E X (kc + mc') (ks + ms') nx lv (ga_pu r st) M') : ga_G E X kc ks pc lv (st) M :=
  g_callS (As := []) hX hd hn hl hy hm rfl rfl hd' hw hc hs k
theorem g_SN0 (hX : ga_B E d y cc nL mc ms X) {host : String} (hd : decode cc pc = .ok (.invokestatic idx, 3)) (hn : pc + 3 = nx) (hl : (y.cls, idx, y', host) ∈ ga_nest) (hy : ga_Ys y' cc' nL' rt' 0) (hm : ga_Mt E d' y' cc' nL' rt' mc' ms' [] M Post) (hd' : d' + 1 ≤ d) (hw : Nat.ble (ga_wd st) 8 = true) (hc : kc + mc' ≤ mc) (hs : ks + ms' ≤ ms) (k : ∀ (r : Option Value) (M' : ga_M), Post r M' → ga_G E X (kc + mc') (ks + ms') nx lv (ga_pu r st) M') : ga_G E X kc ks pc lv (st) M :=
  g_callSN (As := []) hX hd hn hl hy hm rfl rfl hd' hw hc hs k
theorem g_V1 (hX : ga_B E d y cc nL mc ms X) {a ci : Nat} {v1 : Value} {r : vw_C} {fs : List Value} (hd : decode cc pc = .ok (.invokevirtual idx, 3)) (hn : pc + 3 = nx) (hl : Cond.methodLink y.cls idx y' ∈ ga_T) (hy : ga_Yv y' cc' nL' rt' 1) (hm : ga_Mt E d' y' cc' nL' rt' mc' ms' (.ref a :: [v1]) M Post) (ha : a < M.1) (hg : ga_get M a = .inr (ci, fs)) (hr : vwCl[ci]? = some r) (hrn : r.1 = y'.cls) (hd' : d' + 1 ≤ d) (hw : Nat.ble (ga_wd st) 8 = true) (hc : kc + mc' ≤ mc) (hs : ks + ms' ≤ ms) (k : ∀ (r : Option Value) (M' : ga_M), Post r M' → ga_G E X (kc + mc') (ks + ms') nx lv (ga_pu r st) M') : ga_G E X kc ks pc lv (v1 :: .ref a :: st) M :=
  g_callV (As := [v1]) hX hd hn hl hy hm rfl ha hg hr hrn rfl hd' hw hc hs k
theorem g_I1 (hX : ga_B E d y cc nL mc ms X) {a : Nat} {v1 : Value} (hd : decode cc pc = .ok (.invokespecial idx, 3)) (hn : pc + 3 = nx) (hl : Cond.methodLink y.cls idx y' ∈ ga_T) (hy : ga_Yi y' cc' nL' 1) (hm : ga_Mt E d' y' cc' nL' none mc' ms' (.ref a :: [v1]) M Post) (hd' : d' + 1 ≤ d) (hw : Nat.ble (ga_wd st) 8 = true) (hc : kc + mc' ≤ mc) (hs : ks + ms' ≤ ms) (k : ∀ (r : Option Value) (M' : ga_M), Post r M' → ga_G E X (kc + mc') (ks + ms') nx lv (ga_pu r st) M') : ga_G E X kc ks pc lv (v1 :: .ref a :: st) M :=
  g_callI (As := [v1]) hX hd hn hl hy hm rfl rfl hd' hw hc hs k
theorem g_IN1 (hX : ga_B E d y cc nL mc ms X) {a : Nat} {v1 : Value} {host : String} (hd : decode cc pc = .ok (.invokespecial idx, 3)) (hn : pc + 3 = nx) (hl : (y.cls, idx, y', host) ∈ ga_nest) (hy : ga_Yi y' cc' nL' 1) (hm : ga_Mt E d' y' cc' nL' none mc' ms' (.ref a :: [v1]) M Post) (hd' : d' + 1 ≤ d) (hw : Nat.ble (ga_wd st) 8 = true) (hc : kc + mc' ≤ mc) (hs : ks + ms' ≤ ms) (k : ∀ (r : Option Value) (M' : ga_M), Post r M' → ga_G E X (kc + mc') (ks + ms') nx lv (ga_pu r st) M') : ga_G E X kc ks pc lv (v1 :: .ref a :: st) M :=
  g_callIN (As := [v1]) hX hd hn hl hy hm rfl rfl hd' hw hc hs k
theorem g_S1 (hX : ga_B E d y cc nL mc ms X) {v1 : Value} (hd : decode cc pc = .ok (.invokestatic idx, 3)) (hn : pc + 3 = nx) (hl : Cond.methodLink y.cls idx y' ∈ ga_T) (hy : ga_Ys y' cc' nL' rt' 1) (hm : ga_Mt E d' y' cc' nL' rt' mc' ms' [v1] M Post) (hd' : d' + 1 ≤ d) (hw : Nat.ble (ga_wd st) 8 = true) (hc : kc + mc' ≤ mc) (hs : ks + ms' ≤ ms) (k : ∀ (r : Option Value) (M' : ga_M), Post r M' → ga_G E X (kc + mc') (ks + ms') nx lv (ga_pu r st) M') : ga_G E X kc ks pc lv (v1 :: st) M :=
  g_callS (As := [v1]) hX hd hn hl hy hm rfl rfl hd' hw hc hs k
theorem g_SN1 (hX : ga_B E d y cc nL mc ms X) {v1 : Value} {host : String} (hd : decode cc pc = .ok (.invokestatic idx, 3)) (hn : pc + 3 = nx) (hl : (y.cls, idx, y', host) ∈ ga_nest) (hy : ga_Ys y' cc' nL' rt' 1) (hm : ga_Mt E d' y' cc' nL' rt' mc' ms' [v1] M Post) (hd' : d' + 1 ≤ d) (hw : Nat.ble (ga_wd st) 8 = true) (hc : kc + mc' ≤ mc) (hs : ks + ms' ≤ ms) (k : ∀ (r : Option Value) (M' : ga_M), Post r M' → ga_G E X (kc + mc') (ks + ms') nx lv (ga_pu r st) M') : ga_G E X kc ks pc lv (v1 :: st) M :=
  g_callSN (As := [v1]) hX hd hn hl hy hm rfl rfl hd' hw hc hs k
theorem g_V2 (hX : ga_B E d y cc nL mc ms X) {a ci : Nat} {v1 v2 : Value} {r : vw_C} {fs : List Value} (hd : decode cc pc = .ok (.invokevirtual idx, 3)) (hn : pc + 3 = nx) (hl : Cond.methodLink y.cls idx y' ∈ ga_T) (hy : ga_Yv y' cc' nL' rt' 2) (hm : ga_Mt E d' y' cc' nL' rt' mc' ms' (.ref a :: [v1, v2]) M Post) (ha : a < M.1) (hg : ga_get M a = .inr (ci, fs)) (hr : vwCl[ci]? = some r) (hrn : r.1 = y'.cls) (hd' : d' + 1 ≤ d) (hw : Nat.ble (ga_wd st) 8 = true) (hc : kc + mc' ≤ mc) (hs : ks + ms' ≤ ms) (k : ∀ (r : Option Value) (M' : ga_M), Post r M' → ga_G E X (kc + mc') (ks + ms') nx lv (ga_pu r st) M') : ga_G E X kc ks pc lv (v2 :: v1 :: .ref a :: st) M :=
  g_callV (As := [v1, v2]) hX hd hn hl hy hm rfl ha hg hr hrn rfl hd' hw hc hs k
theorem g_I2 (hX : ga_B E d y cc nL mc ms X) {a : Nat} {v1 v2 : Value} (hd : decode cc pc = .ok (.invokespecial idx, 3)) (hn : pc + 3 = nx) (hl : Cond.methodLink y.cls idx y' ∈ ga_T) (hy : ga_Yi y' cc' nL' 2) (hm : ga_Mt E d' y' cc' nL' none mc' ms' (.ref a :: [v1, v2]) M Post) (hd' : d' + 1 ≤ d) (hw : Nat.ble (ga_wd st) 8 = true) (hc : kc + mc' ≤ mc) (hs : ks + ms' ≤ ms) (k : ∀ (r : Option Value) (M' : ga_M), Post r M' → ga_G E X (kc + mc') (ks + ms') nx lv (ga_pu r st) M') : ga_G E X kc ks pc lv (v2 :: v1 :: .ref a :: st) M :=
  g_callI (As := [v1, v2]) hX hd hn hl hy hm rfl rfl hd' hw hc hs k
theorem g_IN2 (hX : ga_B E d y cc nL mc ms X) {a : Nat} {v1 v2 : Value} {host : String} (hd : decode cc pc = .ok (.invokespecial idx, 3)) (hn : pc + 3 = nx) (hl : (y.cls, idx, y', host) ∈ ga_nest) (hy : ga_Yi y' cc' nL' 2) (hm : ga_Mt E d' y' cc' nL' none mc' ms' (.ref a :: [v1, v2]) M Post) (hd' : d' + 1 ≤ d) (hw : Nat.ble (ga_wd st) 8 = true) (hc : kc + mc' ≤ mc) (hs : ks + ms' ≤ ms) (k : ∀ (r : Option Value) (M' : ga_M), Post r M' → ga_G E X (kc + mc') (ks + ms') nx lv (ga_pu r st) M') : ga_G E X kc ks pc lv (v2 :: v1 :: .ref a :: st) M :=
  g_callIN (As := [v1, v2]) hX hd hn hl hy hm rfl rfl hd' hw hc hs k
theorem g_S2 (hX : ga_B E d y cc nL mc ms X) {v1 v2 : Value} (hd : decode cc pc = .ok (.invokestatic idx, 3)) (hn : pc + 3 = nx) (hl : Cond.methodLink y.cls idx y' ∈ ga_T) (hy : ga_Ys y' cc' nL' rt' 2) (hm : ga_Mt E d' y' cc' nL' rt' mc' ms' [v1, v2] M Post) (hd' : d' + 1 ≤ d) (hw : Nat.ble (ga_wd st) 8 = true) (hc : kc + mc' ≤ mc) (hs : ks + ms' ≤ ms) (k : ∀ (r : Option Value) (M' : ga_M), Post r M' → ga_G E X (kc + mc') (ks + ms') nx lv (ga_pu r st) M') : ga_G E X kc ks pc lv (v2 :: v1 :: st) M :=
  g_callS (As := [v1, v2]) hX hd hn hl hy hm rfl rfl hd' hw hc hs k
theorem g_SN2 (hX : ga_B E d y cc nL mc ms X) {v1 v2 : Value} {host : String} (hd : decode cc pc = .ok (.invokestatic idx, 3)) (hn : pc + 3 = nx) (hl : (y.cls, idx, y', host) ∈ ga_nest) (hy : ga_Ys y' cc' nL' rt' 2) (hm : ga_Mt E d' y' cc' nL' rt' mc' ms' [v1, v2] M Post) (hd' : d' + 1 ≤ d) (hw : Nat.ble (ga_wd st) 8 = true) (hc : kc + mc' ≤ mc) (hs : ks + ms' ≤ ms) (k : ∀ (r : Option Value) (M' : ga_M), Post r M' → ga_G E X (kc + mc') (ks + ms') nx lv (ga_pu r st) M') : ga_G E X kc ks pc lv (v2 :: v1 :: st) M :=
  g_callSN (As := [v1, v2]) hX hd hn hl hy hm rfl rfl hd' hw hc hs k
theorem g_V3 (hX : ga_B E d y cc nL mc ms X) {a ci : Nat} {v1 v2 v3 : Value} {r : vw_C} {fs : List Value} (hd : decode cc pc = .ok (.invokevirtual idx, 3)) (hn : pc + 3 = nx) (hl : Cond.methodLink y.cls idx y' ∈ ga_T) (hy : ga_Yv y' cc' nL' rt' 3) (hm : ga_Mt E d' y' cc' nL' rt' mc' ms' (.ref a :: [v1, v2, v3]) M Post) (ha : a < M.1) (hg : ga_get M a = .inr (ci, fs)) (hr : vwCl[ci]? = some r) (hrn : r.1 = y'.cls) (hd' : d' + 1 ≤ d) (hw : Nat.ble (ga_wd st) 8 = true) (hc : kc + mc' ≤ mc) (hs : ks + ms' ≤ ms) (k : ∀ (r : Option Value) (M' : ga_M), Post r M' → ga_G E X (kc + mc') (ks + ms') nx lv (ga_pu r st) M') : ga_G E X kc ks pc lv (v3 :: v2 :: v1 :: .ref a :: st) M :=
  g_callV (As := [v1, v2, v3]) hX hd hn hl hy hm rfl ha hg hr hrn rfl hd' hw hc hs k
theorem g_I3 (hX : ga_B E d y cc nL mc ms X) {a : Nat} {v1 v2 v3 : Value} (hd : decode cc pc = .ok (.invokespecial idx, 3)) (hn : pc + 3 = nx) (hl : Cond.methodLink y.cls idx y' ∈ ga_T) (hy : ga_Yi y' cc' nL' 3) (hm : ga_Mt E d' y' cc' nL' none mc' ms' (.ref a :: [v1, v2, v3]) M Post) (hd' : d' + 1 ≤ d) (hw : Nat.ble (ga_wd st) 8 = true) (hc : kc + mc' ≤ mc) (hs : ks + ms' ≤ ms) (k : ∀ (r : Option Value) (M' : ga_M), Post r M' → ga_G E X (kc + mc') (ks + ms') nx lv (ga_pu r st) M') : ga_G E X kc ks pc lv (v3 :: v2 :: v1 :: .ref a :: st) M :=
  g_callI (As := [v1, v2, v3]) hX hd hn hl hy hm rfl rfl hd' hw hc hs k
theorem g_IN3 (hX : ga_B E d y cc nL mc ms X) {a : Nat} {v1 v2 v3 : Value} {host : String} (hd : decode cc pc = .ok (.invokespecial idx, 3)) (hn : pc + 3 = nx) (hl : (y.cls, idx, y', host) ∈ ga_nest) (hy : ga_Yi y' cc' nL' 3) (hm : ga_Mt E d' y' cc' nL' none mc' ms' (.ref a :: [v1, v2, v3]) M Post) (hd' : d' + 1 ≤ d) (hw : Nat.ble (ga_wd st) 8 = true) (hc : kc + mc' ≤ mc) (hs : ks + ms' ≤ ms) (k : ∀ (r : Option Value) (M' : ga_M), Post r M' → ga_G E X (kc + mc') (ks + ms') nx lv (ga_pu r st) M') : ga_G E X kc ks pc lv (v3 :: v2 :: v1 :: .ref a :: st) M :=
  g_callIN (As := [v1, v2, v3]) hX hd hn hl hy hm rfl rfl hd' hw hc hs k
theorem g_S3 (hX : ga_B E d y cc nL mc ms X) {v1 v2 v3 : Value} (hd : decode cc pc = .ok (.invokestatic idx, 3)) (hn : pc + 3 = nx) (hl : Cond.methodLink y.cls idx y' ∈ ga_T) (hy : ga_Ys y' cc' nL' rt' 3) (hm : ga_Mt E d' y' cc' nL' rt' mc' ms' [v1, v2, v3] M Post) (hd' : d' + 1 ≤ d) (hw : Nat.ble (ga_wd st) 8 = true) (hc : kc + mc' ≤ mc) (hs : ks + ms' ≤ ms) (k : ∀ (r : Option Value) (M' : ga_M), Post r M' → ga_G E X (kc + mc') (ks + ms') nx lv (ga_pu r st) M') : ga_G E X kc ks pc lv (v3 :: v2 :: v1 :: st) M :=
  g_callS (As := [v1, v2, v3]) hX hd hn hl hy hm rfl rfl hd' hw hc hs k
theorem g_SN3 (hX : ga_B E d y cc nL mc ms X) {v1 v2 v3 : Value} {host : String} (hd : decode cc pc = .ok (.invokestatic idx, 3)) (hn : pc + 3 = nx) (hl : (y.cls, idx, y', host) ∈ ga_nest) (hy : ga_Ys y' cc' nL' rt' 3) (hm : ga_Mt E d' y' cc' nL' rt' mc' ms' [v1, v2, v3] M Post) (hd' : d' + 1 ≤ d) (hw : Nat.ble (ga_wd st) 8 = true) (hc : kc + mc' ≤ mc) (hs : ks + ms' ≤ ms) (k : ∀ (r : Option Value) (M' : ga_M), Post r M' → ga_G E X (kc + mc') (ks + ms') nx lv (ga_pu r st) M') : ga_G E X kc ks pc lv (v3 :: v2 :: v1 :: st) M :=
  g_callSN (As := [v1, v2, v3]) hX hd hn hl hy hm rfl rfl hd' hw hc hs k
theorem g_V4 (hX : ga_B E d y cc nL mc ms X) {a ci : Nat} {v1 v2 v3 v4 : Value} {r : vw_C} {fs : List Value} (hd : decode cc pc = .ok (.invokevirtual idx, 3)) (hn : pc + 3 = nx) (hl : Cond.methodLink y.cls idx y' ∈ ga_T) (hy : ga_Yv y' cc' nL' rt' 4) (hm : ga_Mt E d' y' cc' nL' rt' mc' ms' (.ref a :: [v1, v2, v3, v4]) M Post) (ha : a < M.1) (hg : ga_get M a = .inr (ci, fs)) (hr : vwCl[ci]? = some r) (hrn : r.1 = y'.cls) (hd' : d' + 1 ≤ d) (hw : Nat.ble (ga_wd st) 8 = true) (hc : kc + mc' ≤ mc) (hs : ks + ms' ≤ ms) (k : ∀ (r : Option Value) (M' : ga_M), Post r M' → ga_G E X (kc + mc') (ks + ms') nx lv (ga_pu r st) M') : ga_G E X kc ks pc lv (v4 :: v3 :: v2 :: v1 :: .ref a :: st) M :=
  g_callV (As := [v1, v2, v3, v4]) hX hd hn hl hy hm rfl ha hg hr hrn rfl hd' hw hc hs k
theorem g_I4 (hX : ga_B E d y cc nL mc ms X) {a : Nat} {v1 v2 v3 v4 : Value} (hd : decode cc pc = .ok (.invokespecial idx, 3)) (hn : pc + 3 = nx) (hl : Cond.methodLink y.cls idx y' ∈ ga_T) (hy : ga_Yi y' cc' nL' 4) (hm : ga_Mt E d' y' cc' nL' none mc' ms' (.ref a :: [v1, v2, v3, v4]) M Post) (hd' : d' + 1 ≤ d) (hw : Nat.ble (ga_wd st) 8 = true) (hc : kc + mc' ≤ mc) (hs : ks + ms' ≤ ms) (k : ∀ (r : Option Value) (M' : ga_M), Post r M' → ga_G E X (kc + mc') (ks + ms') nx lv (ga_pu r st) M') : ga_G E X kc ks pc lv (v4 :: v3 :: v2 :: v1 :: .ref a :: st) M :=
  g_callI (As := [v1, v2, v3, v4]) hX hd hn hl hy hm rfl rfl hd' hw hc hs k
theorem g_IN4 (hX : ga_B E d y cc nL mc ms X) {a : Nat} {v1 v2 v3 v4 : Value} {host : String} (hd : decode cc pc = .ok (.invokespecial idx, 3)) (hn : pc + 3 = nx) (hl : (y.cls, idx, y', host) ∈ ga_nest) (hy : ga_Yi y' cc' nL' 4) (hm : ga_Mt E d' y' cc' nL' none mc' ms' (.ref a :: [v1, v2, v3, v4]) M Post) (hd' : d' + 1 ≤ d) (hw : Nat.ble (ga_wd st) 8 = true) (hc : kc + mc' ≤ mc) (hs : ks + ms' ≤ ms) (k : ∀ (r : Option Value) (M' : ga_M), Post r M' → ga_G E X (kc + mc') (ks + ms') nx lv (ga_pu r st) M') : ga_G E X kc ks pc lv (v4 :: v3 :: v2 :: v1 :: .ref a :: st) M :=
  g_callIN (As := [v1, v2, v3, v4]) hX hd hn hl hy hm rfl rfl hd' hw hc hs k
theorem g_S4 (hX : ga_B E d y cc nL mc ms X) {v1 v2 v3 v4 : Value} (hd : decode cc pc = .ok (.invokestatic idx, 3)) (hn : pc + 3 = nx) (hl : Cond.methodLink y.cls idx y' ∈ ga_T) (hy : ga_Ys y' cc' nL' rt' 4) (hm : ga_Mt E d' y' cc' nL' rt' mc' ms' [v1, v2, v3, v4] M Post) (hd' : d' + 1 ≤ d) (hw : Nat.ble (ga_wd st) 8 = true) (hc : kc + mc' ≤ mc) (hs : ks + ms' ≤ ms) (k : ∀ (r : Option Value) (M' : ga_M), Post r M' → ga_G E X (kc + mc') (ks + ms') nx lv (ga_pu r st) M') : ga_G E X kc ks pc lv (v4 :: v3 :: v2 :: v1 :: st) M :=
  g_callS (As := [v1, v2, v3, v4]) hX hd hn hl hy hm rfl rfl hd' hw hc hs k
theorem g_SN4 (hX : ga_B E d y cc nL mc ms X) {v1 v2 v3 v4 : Value} {host : String} (hd : decode cc pc = .ok (.invokestatic idx, 3)) (hn : pc + 3 = nx) (hl : (y.cls, idx, y', host) ∈ ga_nest) (hy : ga_Ys y' cc' nL' rt' 4) (hm : ga_Mt E d' y' cc' nL' rt' mc' ms' [v1, v2, v3, v4] M Post) (hd' : d' + 1 ≤ d) (hw : Nat.ble (ga_wd st) 8 = true) (hc : kc + mc' ≤ mc) (hs : ks + ms' ≤ ms) (k : ∀ (r : Option Value) (M' : ga_M), Post r M' → ga_G E X (kc + mc') (ks + ms') nx lv (ga_pu r st) M') : ga_G E X kc ks pc lv (v4 :: v3 :: v2 :: v1 :: st) M :=
  g_callSN (As := [v1, v2, v3, v4]) hX hd hn hl hy hm rfl rfl hd' hw hc hs k
theorem g_V5 (hX : ga_B E d y cc nL mc ms X) {a ci : Nat} {v1 v2 v3 v4 v5 : Value} {r : vw_C} {fs : List Value} (hd : decode cc pc = .ok (.invokevirtual idx, 3)) (hn : pc + 3 = nx) (hl : Cond.methodLink y.cls idx y' ∈ ga_T) (hy : ga_Yv y' cc' nL' rt' 5) (hm : ga_Mt E d' y' cc' nL' rt' mc' ms' (.ref a :: [v1, v2, v3, v4, v5]) M Post) (ha : a < M.1) (hg : ga_get M a = .inr (ci, fs)) (hr : vwCl[ci]? = some r) (hrn : r.1 = y'.cls) (hd' : d' + 1 ≤ d) (hw : Nat.ble (ga_wd st) 8 = true) (hc : kc + mc' ≤ mc) (hs : ks + ms' ≤ ms) (k : ∀ (r : Option Value) (M' : ga_M), Post r M' → ga_G E X (kc + mc') (ks + ms') nx lv (ga_pu r st) M') : ga_G E X kc ks pc lv (v5 :: v4 :: v3 :: v2 :: v1 :: .ref a :: st) M :=
  g_callV (As := [v1, v2, v3, v4, v5]) hX hd hn hl hy hm rfl ha hg hr hrn rfl hd' hw hc hs k
theorem g_I5 (hX : ga_B E d y cc nL mc ms X) {a : Nat} {v1 v2 v3 v4 v5 : Value} (hd : decode cc pc = .ok (.invokespecial idx, 3)) (hn : pc + 3 = nx) (hl : Cond.methodLink y.cls idx y' ∈ ga_T) (hy : ga_Yi y' cc' nL' 5) (hm : ga_Mt E d' y' cc' nL' none mc' ms' (.ref a :: [v1, v2, v3, v4, v5]) M Post) (hd' : d' + 1 ≤ d) (hw : Nat.ble (ga_wd st) 8 = true) (hc : kc + mc' ≤ mc) (hs : ks + ms' ≤ ms) (k : ∀ (r : Option Value) (M' : ga_M), Post r M' → ga_G E X (kc + mc') (ks + ms') nx lv (ga_pu r st) M') : ga_G E X kc ks pc lv (v5 :: v4 :: v3 :: v2 :: v1 :: .ref a :: st) M :=
  g_callI (As := [v1, v2, v3, v4, v5]) hX hd hn hl hy hm rfl rfl hd' hw hc hs k
theorem g_IN5 (hX : ga_B E d y cc nL mc ms X) {a : Nat} {v1 v2 v3 v4 v5 : Value} {host : String} (hd : decode cc pc = .ok (.invokespecial idx, 3)) (hn : pc + 3 = nx) (hl : (y.cls, idx, y', host) ∈ ga_nest) (hy : ga_Yi y' cc' nL' 5) (hm : ga_Mt E d' y' cc' nL' none mc' ms' (.ref a :: [v1, v2, v3, v4, v5]) M Post) (hd' : d' + 1 ≤ d) (hw : Nat.ble (ga_wd st) 8 = true) (hc : kc + mc' ≤ mc) (hs : ks + ms' ≤ ms) (k : ∀ (r : Option Value) (M' : ga_M), Post r M' → ga_G E X (kc + mc') (ks + ms') nx lv (ga_pu r st) M') : ga_G E X kc ks pc lv (v5 :: v4 :: v3 :: v2 :: v1 :: .ref a :: st) M :=
  g_callIN (As := [v1, v2, v3, v4, v5]) hX hd hn hl hy hm rfl rfl hd' hw hc hs k
theorem g_S5 (hX : ga_B E d y cc nL mc ms X) {v1 v2 v3 v4 v5 : Value} (hd : decode cc pc = .ok (.invokestatic idx, 3)) (hn : pc + 3 = nx) (hl : Cond.methodLink y.cls idx y' ∈ ga_T) (hy : ga_Ys y' cc' nL' rt' 5) (hm : ga_Mt E d' y' cc' nL' rt' mc' ms' [v1, v2, v3, v4, v5] M Post) (hd' : d' + 1 ≤ d) (hw : Nat.ble (ga_wd st) 8 = true) (hc : kc + mc' ≤ mc) (hs : ks + ms' ≤ ms) (k : ∀ (r : Option Value) (M' : ga_M), Post r M' → ga_G E X (kc + mc') (ks + ms') nx lv (ga_pu r st) M') : ga_G E X kc ks pc lv (v5 :: v4 :: v3 :: v2 :: v1 :: st) M :=
  g_callS (As := [v1, v2, v3, v4, v5]) hX hd hn hl hy hm rfl rfl hd' hw hc hs k
theorem g_SN5 (hX : ga_B E d y cc nL mc ms X) {v1 v2 v3 v4 v5 : Value} {host : String} (hd : decode cc pc = .ok (.invokestatic idx, 3)) (hn : pc + 3 = nx) (hl : (y.cls, idx, y', host) ∈ ga_nest) (hy : ga_Ys y' cc' nL' rt' 5) (hm : ga_Mt E d' y' cc' nL' rt' mc' ms' [v1, v2, v3, v4, v5] M Post) (hd' : d' + 1 ≤ d) (hw : Nat.ble (ga_wd st) 8 = true) (hc : kc + mc' ≤ mc) (hs : ks + ms' ≤ ms) (k : ∀ (r : Option Value) (M' : ga_M), Post r M' → ga_G E X (kc + mc') (ks + ms') nx lv (ga_pu r st) M') : ga_G E X kc ks pc lv (v5 :: v4 :: v3 :: v2 :: v1 :: st) M :=
  g_callSN (As := [v1, v2, v3, v4, v5]) hX hd hn hl hy hm rfl rfl hd' hw hc hs k
end
end
section
theorem zL : Cond.initialized RL ∈ ga_T := ga_in (List.mem_of_getElem? (i := 74) (by decide +kernel)) rfl
theorem zX10 : Cond.initialized RX10 ∈ ga_T := ga_in (List.mem_of_getElem? (i := 75) (by decide +kernel)) rfl
theorem zX9 : Cond.initialized RX9 ∈ ga_T := ga_in (List.mem_of_getElem? (i := 76) (by decide +kernel)) rfl
theorem zX5 : Cond.initialized RX5 ∈ ga_T := ga_in (List.mem_of_getElem? (i := 77) (by decide +kernel)) rfl
theorem zX2 : Cond.initialized RX2 ∈ ga_T := ga_in (List.mem_of_getElem? (i := 78) (by decide +kernel)) rfl
theorem zX3 : Cond.initialized RX3 ∈ ga_T := ga_in (List.mem_of_getElem? (i := 79) (by decide +kernel)) rfl
theorem zX4 : Cond.initialized RX4 ∈ ga_T := ga_in (List.mem_of_getElem? (i := 80) (by decide +kernel)) rfl
theorem zJ0 : Cond.initialized RJ0 ∈ ga_T := ga_in (List.mem_of_getElem? (i := 81) (by decide +kernel)) rfl
theorem zJ1 : Cond.initialized RJ1 ∈ ga_T := ga_in (List.mem_of_getElem? (i := 82) (by decide +kernel)) rfl
theorem zJ3 : Cond.initialized RJ3 ∈ ga_T := ga_in (List.mem_of_getElem? (i := 83) (by decide +kernel)) rfl
theorem zJ2 : Cond.initialized RJ2 ∈ ga_T := ga_in (List.mem_of_getElem? (i := 84) (by decide +kernel)) rfl
theorem zX6 : Cond.initialized RX6 ∈ ga_T := ga_in (List.mem_of_getElem? (i := 85) (by decide +kernel)) rfl
theorem zX1 : Cond.initialized RX1 ∈ ga_T := ga_in (List.mem_of_getElem? (i := 86) (by decide +kernel)) rfl
theorem zX8 : Cond.initialized RX8 ∈ ga_T := ga_in (List.mem_of_getElem? (i := 87) (by decide +kernel)) rfl
theorem zX7 : Cond.initialized RX7 ∈ ga_T := ga_in (List.mem_of_getElem? (i := 88) (by decide +kernel)) rfl
theorem zX11 : Cond.initialized RX11 ∈ ga_T := ga_in (List.mem_of_getElem? (i := 89) (by decide +kernel)) rfl
theorem zX0 : Cond.initialized RX0 ∈ ga_T := ga_in (List.mem_of_getElem? (i := 90) (by decide +kernel)) rfl
theorem zJ9 : Cond.initialized RJ9 ∈ ga_T := ga_in (List.mem_of_getElem? (i := 91) (by decide +kernel)) rfl
theorem lL_7 : Cond.classLink RL 7 RX10 ∈ ga_T := ga_in (List.mem_of_getElem? (i := 92) (by decide +kernel)) rfl
theorem qX10 : Cond.instantiable RX10 9 ∈ ga_T := ga_in (List.mem_of_getElem? (i := 93) (by decide +kernel)) rfl
theorem mL_9 : Cond.methodLink RL 9 yX10_init ∈ ga_T := ga_in (List.mem_of_getElem? (i := 94) (by decide +kernel)) rfl
theorem yX10_init_ok : ga_Yi yX10_init cX10_init 1 0 := ⟨⟨ga_in (List.mem_of_getElem? (i := 75) (by decide +kernel)) rfl, ga_in (List.mem_of_getElem? (i := 96) (by decide +kernel)) rfl, by decide +kernel, by decide⟩, rfl, ga_in (List.mem_of_getElem? (i := 95) (by decide +kernel)) rfl⟩
theorem mX10_1 : Cond.methodLink RX10 1 Lib.objectInit ∈ ga_T := ga_in (List.mem_of_getElem? (i := 97) (by decide +kernel)) rfl
theorem ob_c : Cond.code Lib.objectInit ⟨#[0xb1]⟩ 1 none ∈ ga_T := ga_in (List.mem_of_getElem? (i := 99) (by decide +kernel)) rfl
theorem ob_i : Cond.instanceMethod Lib.objectInit ∈ ga_T := ga_in (List.mem_of_getElem? (i := 98) (by decide +kernel)) rfl
theorem lX10_7 : Cond.classLink RX10 7 RX9 ∈ ga_T := ga_in (List.mem_of_getElem? (i := 100) (by decide +kernel)) rfl
theorem qX9 : Cond.instantiable RX9 2 ∈ ga_T := ga_in (List.mem_of_getElem? (i := 101) (by decide +kernel)) rfl
theorem nX10_9 : (RX10, 9, yX9_init, "ThreeDays") ∈ ga_nest := by decide +kernel
theorem yX9_init_ok : ga_Yi yX9_init cX9_init 1 0 := ⟨⟨ga_in (List.mem_of_getElem? (i := 76) (by decide +kernel)) rfl, ga_in (List.mem_of_getElem? (i := 104) (by decide +kernel)) rfl, by decide +kernel, by decide⟩, rfl, ga_in (List.mem_of_getElem? (i := 103) (by decide +kernel)) rfl⟩
theorem mX9_1 : Cond.methodLink RX9 1 Lib.objectInit ∈ ga_T := ga_in (List.mem_of_getElem? (i := 105) (by decide +kernel)) rfl
theorem fX9_9 : ga_F RX9 9 9 0 := ⟨_, rfl, by decide, ga_in (List.mem_of_getElem? (i := 106) (by decide +kernel)) rfl⟩
theorem pX9_9 : ga_FP RX9 9 9 0 (.array .int) true := ⟨_, rfl, by decide, ga_in (List.mem_of_getElem? (i := 106) (by decide +kernel)) rfl, rfl, by decide +kernel, fun h => by first | rfl | cases h⟩
theorem fX4_170 : ga_F RX4 170 9 0 := ⟨_, rfl, by decide, ga_in (List.mem_of_getElem? (i := 107) (by decide +kernel)) rfl⟩
theorem fX9_13 : ga_F RX9 13 9 1 := ⟨_, rfl, by decide, ga_in (List.mem_of_getElem? (i := 108) (by decide +kernel)) rfl⟩
theorem pX9_13 : ga_FP RX9 13 9 1 .int false := ⟨_, rfl, by decide, ga_in (List.mem_of_getElem? (i := 108) (by decide +kernel)) rfl, rfl, by decide +kernel, fun h => by first | rfl | cases h⟩
theorem fX10_77 : ga_F RX10 77 9 1 := ⟨_, rfl, by decide, ga_in (List.mem_of_getElem? (i := 109) (by decide +kernel)) rfl⟩
theorem pX10_77 : ga_FP RX10 77 9 1 .int false := ⟨_, rfl, by decide, ga_in (List.mem_of_getElem? (i := 109) (by decide +kernel)) rfl, rfl, by decide +kernel, fun h => by first | rfl | cases h⟩
theorem fX4_124 : ga_F RX4 124 9 1 := ⟨_, rfl, by decide, ga_in (List.mem_of_getElem? (i := 110) (by decide +kernel)) rfl⟩
theorem pX4_124 : ga_FP RX4 124 9 1 .int false := ⟨_, rfl, by decide, ga_in (List.mem_of_getElem? (i := 110) (by decide +kernel)) rfl, rfl, by decide +kernel, fun h => by first | rfl | cases h⟩
theorem ar_int : Cond.arrayClass .int ∈ ga_T := ga_in (List.mem_of_getElem? (i := 116) (by decide +kernel)) rfl
theorem lX10_16 : Cond.classLink RX10 16 RX5 ∈ ga_T := ga_in (List.mem_of_getElem? (i := 117) (by decide +kernel)) rfl
theorem qX5 : Cond.instantiable RX5 3 ∈ ga_T := ga_in (List.mem_of_getElem? (i := 118) (by decide +kernel)) rfl
theorem nX10_18 : (RX10, 18, yX5_init, "ThreeDays") ∈ ga_nest := by decide +kernel
theorem yX5_init_ok : ga_Yi yX5_init cX5_init 1 0 := ⟨⟨ga_in (List.mem_of_getElem? (i := 77) (by decide +kernel)) rfl, ga_in (List.mem_of_getElem? (i := 121) (by decide +kernel)) rfl, by decide +kernel, by decide⟩, rfl, ga_in (List.mem_of_getElem? (i := 120) (by decide +kernel)) rfl⟩
theorem mX5_3 : Cond.methodLink RX5 3 Lib.objectInit ∈ ga_T := ga_in (List.mem_of_getElem? (i := 122) (by decide +kernel)) rfl
theorem fX5_11 : ga_F RX5 11 5 0 := ⟨_, rfl, by decide, ga_in (List.mem_of_getElem? (i := 123) (by decide +kernel)) rfl⟩
theorem pX5_11 : ga_FP RX5 11 5 0 (.array .int) true := ⟨_, rfl, by decide, ga_in (List.mem_of_getElem? (i := 123) (by decide +kernel)) rfl, rfl, by decide +kernel, fun h => by first | rfl | cases h⟩
theorem fX5_15 : ga_F RX5 15 5 1 := ⟨_, rfl, by decide, ga_in (List.mem_of_getElem? (i := 124) (by decide +kernel)) rfl⟩
theorem pX5_15 : ga_FP RX5 15 5 1 (.array .int) true := ⟨_, rfl, by decide, ga_in (List.mem_of_getElem? (i := 124) (by decide +kernel)) rfl, rfl, by decide +kernel, fun h => by first | rfl | cases h⟩
theorem fX5_18 : ga_F RX5 18 5 2 := ⟨_, rfl, by decide, ga_in (List.mem_of_getElem? (i := 125) (by decide +kernel)) rfl⟩
theorem pX5_18 : ga_FP RX5 18 5 2 .int false := ⟨_, rfl, by decide, ga_in (List.mem_of_getElem? (i := 125) (by decide +kernel)) rfl, rfl, by decide +kernel, fun h => by first | rfl | cases h⟩
theorem fX1_51 : ga_F RX1 51 5 2 := ⟨_, rfl, by decide, ga_in (List.mem_of_getElem? (i := 126) (by decide +kernel)) rfl⟩
theorem pX1_51 : ga_FP RX1 51 5 2 .int false := ⟨_, rfl, by decide, ga_in (List.mem_of_getElem? (i := 126) (by decide +kernel)) rfl, rfl, by decide +kernel, fun h => by first | rfl | cases h⟩
theorem fX10_195 : ga_F RX10 195 5 2 := ⟨_, rfl, by decide, ga_in (List.mem_of_getElem? (i := 127) (by decide +kernel)) rfl⟩
theorem pX10_195 : ga_FP RX10 195 5 2 .int false := ⟨_, rfl, by decide, ga_in (List.mem_of_getElem? (i := 127) (by decide +kernel)) rfl, rfl, by decide +kernel, fun h => by first | rfl | cases h⟩
theorem lX10_23 : Cond.classLink RX10 23 RX2 ∈ ga_T := ga_in (List.mem_of_getElem? (i := 135) (by decide +kernel)) rfl
theorem qX2 : Cond.instantiable RX2 7 ∈ ga_T := ga_in (List.mem_of_getElem? (i := 136) (by decide +kernel)) rfl
theorem nX10_25 : (RX10, 25, yX2_init, "ThreeDays") ∈ ga_nest := by decide +kernel
theorem yX2_init_ok : ga_Yi yX2_init cX2_init 1 0 := ⟨⟨ga_in (List.mem_of_getElem? (i := 78) (by decide +kernel)) rfl, ga_in (List.mem_of_getElem? (i := 139) (by decide +kernel)) rfl, by decide +kernel, by decide⟩, rfl, ga_in (List.mem_of_getElem? (i := 138) (by decide +kernel)) rfl⟩
theorem mX2_3 : Cond.methodLink RX2 3 Lib.objectInit ∈ ga_T := ga_in (List.mem_of_getElem? (i := 140) (by decide +kernel)) rfl
theorem fX2_11 : ga_F RX2 11 2 0 := ⟨_, rfl, by decide, ga_in (List.mem_of_getElem? (i := 141) (by decide +kernel)) rfl⟩
theorem pX2_11 : ga_FP RX2 11 2 0 (.array .int) true := ⟨_, rfl, by decide, ga_in (List.mem_of_getElem? (i := 141) (by decide +kernel)) rfl, rfl, by decide +kernel, fun h => by first | rfl | cases h⟩
theorem fX2_15 : ga_F RX2 15 2 1 := ⟨_, rfl, by decide, ga_in (List.mem_of_getElem? (i := 142) (by decide +kernel)) rfl⟩
theorem pX2_15 : ga_FP RX2 15 2 1 (.array .int) true := ⟨_, rfl, by decide, ga_in (List.mem_of_getElem? (i := 142) (by decide +kernel)) rfl, rfl, by decide +kernel, fun h => by first | rfl | cases h⟩
theorem fX2_29 : ga_F RX2 29 2 2 := ⟨_, rfl, by decide, ga_in (List.mem_of_getElem? (i := 143) (by decide +kernel)) rfl⟩
theorem pX2_29 : ga_FP RX2 29 2 2 .int false := ⟨_, rfl, by decide, ga_in (List.mem_of_getElem? (i := 143) (by decide +kernel)) rfl, rfl, by decide +kernel, fun h => by first | rfl | cases h⟩
theorem fX2_35 : ga_F RX2 35 2 3 := ⟨_, rfl, by decide, ga_in (List.mem_of_getElem? (i := 144) (by decide +kernel)) rfl⟩
theorem pX2_35 : ga_FP RX2 35 2 3 .int false := ⟨_, rfl, by decide, ga_in (List.mem_of_getElem? (i := 144) (by decide +kernel)) rfl, rfl, by decide +kernel, fun h => by first | rfl | cases h⟩
theorem fX2_18 : ga_F RX2 18 2 4 := ⟨_, rfl, by decide, ga_in (List.mem_of_getElem? (i := 145) (by decide +kernel)) rfl⟩
theorem pX2_18 : ga_FP RX2 18 2 4 .int false := ⟨_, rfl, by decide, ga_in (List.mem_of_getElem? (i := 145) (by decide +kernel)) rfl, rfl, by decide +kernel, fun h => by first | rfl | cases h⟩
theorem fX2_22 : ga_F RX2 22 2 5 := ⟨_, rfl, by decide, ga_in (List.mem_of_getElem? (i := 146) (by decide +kernel)) rfl⟩
theorem pX2_22 : ga_FP RX2 22 2 5 .int false := ⟨_, rfl, by decide, ga_in (List.mem_of_getElem? (i := 146) (by decide +kernel)) rfl, rfl, by decide +kernel, fun h => by first | rfl | cases h⟩
theorem fX8_58 : ga_F RX8 58 2 5 := ⟨_, rfl, by decide, ga_in (List.mem_of_getElem? (i := 147) (by decide +kernel)) rfl⟩
theorem pX8_58 : ga_FP RX8 58 2 5 .int false := ⟨_, rfl, by decide, ga_in (List.mem_of_getElem? (i := 147) (by decide +kernel)) rfl, rfl, by decide +kernel, fun h => by first | rfl | cases h⟩
theorem fX10_198 : ga_F RX10 198 2 5 := ⟨_, rfl, by decide, ga_in (List.mem_of_getElem? (i := 148) (by decide +kernel)) rfl⟩
theorem pX10_198 : ga_FP RX10 198 2 5 .int false := ⟨_, rfl, by decide, ga_in (List.mem_of_getElem? (i := 148) (by decide +kernel)) rfl, rfl, by decide +kernel, fun h => by first | rfl | cases h⟩
theorem fX2_38 : ga_F RX2 38 2 6 := ⟨_, rfl, by decide, ga_in (List.mem_of_getElem? (i := 149) (by decide +kernel)) rfl⟩
theorem pX2_38 : ga_FP RX2 38 2 6 .int false := ⟨_, rfl, by decide, ga_in (List.mem_of_getElem? (i := 149) (by decide +kernel)) rfl, rfl, by decide +kernel, fun h => by first | rfl | cases h⟩
theorem fX8_113 : ga_F RX8 113 2 6 := ⟨_, rfl, by decide, ga_in (List.mem_of_getElem? (i := 150) (by decide +kernel)) rfl⟩
theorem pX8_113 : ga_FP RX8 113 2 6 .int false := ⟨_, rfl, by decide, ga_in (List.mem_of_getElem? (i := 150) (by decide +kernel)) rfl, rfl, by decide +kernel, fun h => by first | rfl | cases h⟩
theorem fX10_201 : ga_F RX10 201 2 6 := ⟨_, rfl, by decide, ga_in (List.mem_of_getElem? (i := 151) (by decide +kernel)) rfl⟩
theorem pX10_201 : ga_FP RX10 201 2 6 .int false := ⟨_, rfl, by decide, ga_in (List.mem_of_getElem? (i := 151) (by decide +kernel)) rfl, rfl, by decide +kernel, fun h => by first | rfl | cases h⟩
theorem lX10_30 : Cond.classLink RX10 30 RX3 ∈ ga_T := ga_in (List.mem_of_getElem? (i := 167) (by decide +kernel)) rfl
theorem qX3 : Cond.instantiable RX3 4 ∈ ga_T := ga_in (List.mem_of_getElem? (i := 168) (by decide +kernel)) rfl
theorem nX10_32 : (RX10, 32, yX3_init, "ThreeDays") ∈ ga_nest := by decide +kernel
theorem yX3_init_ok : ga_Yi yX3_init cX3_init 1 0 := ⟨⟨ga_in (List.mem_of_getElem? (i := 79) (by decide +kernel)) rfl, ga_in (List.mem_of_getElem? (i := 171) (by decide +kernel)) rfl, by decide +kernel, by decide⟩, rfl, ga_in (List.mem_of_getElem? (i := 170) (by decide +kernel)) rfl⟩
theorem mX3_3 : Cond.methodLink RX3 3 Lib.objectInit ∈ ga_T := ga_in (List.mem_of_getElem? (i := 172) (by decide +kernel)) rfl
theorem lX3_11 : Cond.classLink RX3 11 RX0 ∈ ga_T := ga_in (List.mem_of_getElem? (i := 173) (by decide +kernel)) rfl
theorem fX3_13 : ga_F RX3 13 3 0 := ⟨_, rfl, by decide, ga_in (List.mem_of_getElem? (i := 175) (by decide +kernel)) rfl⟩
theorem pX3_13 : ga_FP RX3 13 3 0 (.array (.object "ThreeDays$Act")) true := ⟨_, rfl, by decide, ga_in (List.mem_of_getElem? (i := 175) (by decide +kernel)) rfl, rfl, by decide +kernel, fun h => by first | rfl | cases h⟩
theorem fX3_19 : ga_F RX3 19 3 1 := ⟨_, rfl, by decide, ga_in (List.mem_of_getElem? (i := 176) (by decide +kernel)) rfl⟩
theorem pX3_19 : ga_FP RX3 19 3 1 (.array (.object "ThreeDays$Act")) true := ⟨_, rfl, by decide, ga_in (List.mem_of_getElem? (i := 176) (by decide +kernel)) rfl, rfl, by decide +kernel, fun h => by first | rfl | cases h⟩
theorem fX3_22 : ga_F RX3 22 3 2 := ⟨_, rfl, by decide, ga_in (List.mem_of_getElem? (i := 177) (by decide +kernel)) rfl⟩
theorem pX3_22 : ga_FP RX3 22 3 2 (.array (.object "ThreeDays$Act")) true := ⟨_, rfl, by decide, ga_in (List.mem_of_getElem? (i := 177) (by decide +kernel)) rfl, rfl, by decide +kernel, fun h => by first | rfl | cases h⟩
theorem fX3_25 : ga_F RX3 25 3 3 := ⟨_, rfl, by decide, ga_in (List.mem_of_getElem? (i := 178) (by decide +kernel)) rfl⟩
theorem pX3_25 : ga_FP RX3 25 3 3 .int false := ⟨_, rfl, by decide, ga_in (List.mem_of_getElem? (i := 178) (by decide +kernel)) rfl, rfl, by decide +kernel, fun h => by first | rfl | cases h⟩
theorem fX10_119 : ga_F RX10 119 3 3 := ⟨_, rfl, by decide, ga_in (List.mem_of_getElem? (i := 179) (by decide +kernel)) rfl⟩
theorem pX10_119 : ga_FP RX10 119 3 3 .int false := ⟨_, rfl, by decide, ga_in (List.mem_of_getElem? (i := 179) (by decide +kernel)) rfl, rfl, by decide +kernel, fun h => by first | rfl | cases h⟩
theorem lX10_37 : Cond.classLink RX10 37 RX4 ∈ ga_T := ga_in (List.mem_of_getElem? (i := 189) (by decide +kernel)) rfl
theorem qX4 : Cond.instantiable RX4 15 ∈ ga_T := ga_in (List.mem_of_getElem? (i := 190) (by decide +kernel)) rfl
theorem mX10_39 : Cond.methodLink RX10 39 yX4_init ∈ ga_T := ga_in (List.mem_of_getElem? (i := 191) (by decide +kernel)) rfl
theorem yX4_init_ok : ga_Yi yX4_init cX4_init 5 1 := ⟨⟨ga_in (List.mem_of_getElem? (i := 80) (by decide +kernel)) rfl, ga_in (List.mem_of_getElem? (i := 193) (by decide +kernel)) rfl, by decide +kernel, by decide⟩, rfl, ga_in (List.mem_of_getElem? (i := 192) (by decide +kernel)) rfl⟩
theorem mX4_3 : Cond.methodLink RX4 3 Lib.objectInit ∈ ga_T := ga_in (List.mem_of_getElem? (i := 194) (by decide +kernel)) rfl
theorem mX4_11 : Cond.methodLink RX4 11 yX4_packed ∈ ga_T := ga_in (List.mem_of_getElem? (i := 196) (by decide +kernel)) rfl
theorem yX4_packed_ok : ga_Ys yX4_packed cX4_packed 4 (some .long) 1 := ⟨⟨ga_in (List.mem_of_getElem? (i := 80) (by decide +kernel)) rfl, ga_in (List.mem_of_getElem? (i := 198) (by decide +kernel)) rfl, by decide +kernel, by decide⟩, ga_in (List.mem_of_getElem? (i := 197) (by decide +kernel)) rfl⟩
theorem mX4_62 : Cond.methodLink RX4 62 yJ0_length_8abf5 ∈ ga_T := ga_in (List.mem_of_getElem? (i := 199) (by decide +kernel)) rfl
theorem yJ0_length_8abf5_ok : ga_Yv yJ0_length_8abf5 cJ0_length_8abf5 1 (some .int) 0 := ⟨⟨ga_in (List.mem_of_getElem? (i := 81) (by decide +kernel)) rfl, ga_in (List.mem_of_getElem? (i := 202) (by decide +kernel)) rfl, by decide +kernel, by decide⟩, ga_in (List.mem_of_getElem? (i := 200) (by decide +kernel)) rfl, ga_in (List.mem_of_getElem? (i := 201) (by decide +kernel)) rfl⟩
theorem mJ0_335 : Cond.methodLink RJ0 335 yJ0_coder_7d493 ∈ ga_T := ga_in (List.mem_of_getElem? (i := 203) (by decide +kernel)) rfl
theorem yJ0_coder_7d493_ok : ga_Yv yJ0_coder_7d493 cJ0_coder_7d493 1 (some .byte) 0 := ⟨⟨ga_in (List.mem_of_getElem? (i := 81) (by decide +kernel)) rfl, ga_in (List.mem_of_getElem? (i := 206) (by decide +kernel)) rfl, by decide +kernel, by decide⟩, ga_in (List.mem_of_getElem? (i := 204) (by decide +kernel)) rfl, ga_in (List.mem_of_getElem? (i := 205) (by decide +kernel)) rfl⟩
theorem mX4_68 : Cond.methodLink RX4 68 yJ0_charAt_5068e ∈ ga_T := ga_in (List.mem_of_getElem? (i := 209) (by decide +kernel)) rfl
theorem yJ0_charAt_5068e_ok : ga_Yv yJ0_charAt_5068e cJ0_charAt_5068e 2 (some .char) 1 := ⟨⟨ga_in (List.mem_of_getElem? (i := 81) (by decide +kernel)) rfl, ga_in (List.mem_of_getElem? (i := 212) (by decide +kernel)) rfl, by decide +kernel, by decide⟩, ga_in (List.mem_of_getElem? (i := 210) (by decide +kernel)) rfl, ga_in (List.mem_of_getElem? (i := 211) (by decide +kernel)) rfl⟩
theorem mJ0_492 : Cond.methodLink RJ0 492 yJ0_isLatin1_aae02 ∈ ga_T := ga_in (List.mem_of_getElem? (i := 213) (by decide +kernel)) rfl
theorem yJ0_isLatin1_aae02_ok : ga_Yv yJ0_isLatin1_aae02 cJ0_isLatin1_aae02 1 (some .boolean) 0 := ⟨⟨ga_in (List.mem_of_getElem? (i := 81) (by decide +kernel)) rfl, ga_in (List.mem_of_getElem? (i := 216) (by decide +kernel)) rfl, by decide +kernel, by decide⟩, ga_in (List.mem_of_getElem? (i := 214) (by decide +kernel)) rfl, ga_in (List.mem_of_getElem? (i := 215) (by decide +kernel)) rfl⟩
theorem mJ0_495 : Cond.methodLink RJ0 495 yJ1_charAt_3b067 ∈ ga_T := ga_in (List.mem_of_getElem? (i := 217) (by decide +kernel)) rfl
theorem yJ1_charAt_3b067_ok : ga_Ys yJ1_charAt_3b067 cJ1_charAt_3b067 2 (some .char) 2 := ⟨⟨ga_in (List.mem_of_getElem? (i := 82) (by decide +kernel)) rfl, ga_in (List.mem_of_getElem? (i := 219) (by decide +kernel)) rfl, by decide +kernel, by decide⟩, ga_in (List.mem_of_getElem? (i := 218) (by decide +kernel)) rfl⟩
theorem mJ1_9 : Cond.methodLink RJ1 9 yJ0_checkIndex_df160 ∈ ga_T := ga_in (List.mem_of_getElem? (i := 220) (by decide +kernel)) rfl
theorem yJ0_checkIndex_df160_ok : ga_Ys yJ0_checkIndex_df160 cJ0_checkIndex_df160 2 none 2 := ⟨⟨ga_in (List.mem_of_getElem? (i := 81) (by decide +kernel)) rfl, ga_in (List.mem_of_getElem? (i := 222) (by decide +kernel)) rfl, by decide +kernel, by decide⟩, ga_in (List.mem_of_getElem? (i := 221) (by decide +kernel)) rfl⟩
theorem mJ0_1059 : Cond.methodLink RJ0 1059 yJ3_checkIndex_8e157 ∈ ga_T := ga_in (List.mem_of_getElem? (i := 225) (by decide +kernel)) rfl
theorem yJ3_checkIndex_8e157_ok : ga_Ys yJ3_checkIndex_8e157 cJ3_checkIndex_8e157 3 (some .int) 3 := ⟨⟨ga_in (List.mem_of_getElem? (i := 83) (by decide +kernel)) rfl, ga_in (List.mem_of_getElem? (i := 227) (by decide +kernel)) rfl, by decide +kernel, by decide⟩, ga_in (List.mem_of_getElem? (i := 226) (by decide +kernel)) rfl⟩
theorem mJ0_498 : Cond.methodLink RJ0 498 yJ2_charAt_3b067 ∈ ga_T := ga_in (List.mem_of_getElem? (i := 228) (by decide +kernel)) rfl
theorem yJ2_charAt_3b067_ok : ga_Ys yJ2_charAt_3b067 cJ2_charAt_3b067 2 (some .char) 2 := ⟨⟨ga_in (List.mem_of_getElem? (i := 84) (by decide +kernel)) rfl, ga_in (List.mem_of_getElem? (i := 230) (by decide +kernel)) rfl, by decide +kernel, by decide⟩, ga_in (List.mem_of_getElem? (i := 229) (by decide +kernel)) rfl⟩
theorem mJ2_67 : Cond.methodLink RJ2 67 yJ2_checkIndex_2214a ∈ ga_T := ga_in (List.mem_of_getElem? (i := 231) (by decide +kernel)) rfl
theorem yJ2_checkIndex_2214a_ok : ga_Ys yJ2_checkIndex_2214a cJ2_checkIndex_2214a 2 none 2 := ⟨⟨ga_in (List.mem_of_getElem? (i := 84) (by decide +kernel)) rfl, ga_in (List.mem_of_getElem? (i := 233) (by decide +kernel)) rfl, by decide +kernel, by decide⟩, ga_in (List.mem_of_getElem? (i := 232) (by decide +kernel)) rfl⟩
theorem mJ2_48 : Cond.methodLink RJ2 48 yJ2_length_9d52b ∈ ga_T := ga_in (List.mem_of_getElem? (i := 234) (by decide +kernel)) rfl
theorem yJ2_length_9d52b_ok : ga_Ys yJ2_length_9d52b cJ2_length_9d52b 1 (some .int) 1 := ⟨⟨ga_in (List.mem_of_getElem? (i := 84) (by decide +kernel)) rfl, ga_in (List.mem_of_getElem? (i := 236) (by decide +kernel)) rfl, by decide +kernel, by decide⟩, ga_in (List.mem_of_getElem? (i := 235) (by decide +kernel)) rfl⟩
theorem mJ2_414 : Cond.methodLink RJ2 414 yJ0_checkIndex_df160 ∈ ga_T := ga_in (List.mem_of_getElem? (i := 237) (by decide +kernel)) rfl
theorem mJ2_71 : Cond.methodLink RJ2 71 yJ2_getChar_3b067 ∈ ga_T := ga_in (List.mem_of_getElem? (i := 238) (by decide +kernel)) rfl
theorem yJ2_getChar_3b067_ok : ga_Ys yJ2_getChar_3b067 cJ2_getChar_3b067 2 (some .char) 2 := ⟨⟨ga_in (List.mem_of_getElem? (i := 84) (by decide +kernel)) rfl, ga_in (List.mem_of_getElem? (i := 240) (by decide +kernel)) rfl, by decide +kernel, by decide⟩, ga_in (List.mem_of_getElem? (i := 239) (by decide +kernel)) rfl⟩
theorem mX4_72 : Cond.methodLink RX4 72 yX4_withLetter ∈ ga_T := ga_in (List.mem_of_getElem? (i := 247) (by decide +kernel)) rfl
theorem yX4_withLetter_ok : ga_Ys yX4_withLetter cX4_withLetter 3 (some .long) 2 := ⟨⟨ga_in (List.mem_of_getElem? (i := 80) (by decide +kernel)) rfl, ga_in (List.mem_of_getElem? (i := 249) (by decide +kernel)) rfl, by decide +kernel, by decide⟩, ga_in (List.mem_of_getElem? (i := 248) (by decide +kernel)) rfl⟩
theorem fX4_17 : ga_F RX4 17 4 0 := ⟨_, rfl, by decide, ga_in (List.mem_of_getElem? (i := 256) (by decide +kernel)) rfl⟩
theorem pX4_17 : ga_FP RX4 17 4 0 .long true := ⟨_, rfl, by decide, ga_in (List.mem_of_getElem? (i := 256) (by decide +kernel)) rfl, rfl, by decide +kernel, fun h => by first | rfl | cases h⟩
theorem fX4_23 : ga_F RX4 23 4 1 := ⟨_, rfl, by decide, ga_in (List.mem_of_getElem? (i := 257) (by decide +kernel)) rfl⟩
theorem pX4_23 : ga_FP RX4 23 4 1 .long true := ⟨_, rfl, by decide, ga_in (List.mem_of_getElem? (i := 257) (by decide +kernel)) rfl, rfl, by decide +kernel, fun h => by first | rfl | cases h⟩
theorem fX4_28 : ga_F RX4 28 4 2 := ⟨_, rfl, by decide, ga_in (List.mem_of_getElem? (i := 258) (by decide +kernel)) rfl⟩
theorem pX4_28 : ga_FP RX4 28 4 2 .long true := ⟨_, rfl, by decide, ga_in (List.mem_of_getElem? (i := 258) (by decide +kernel)) rfl, rfl, by decide +kernel, fun h => by first | rfl | cases h⟩
theorem fX4_33 : ga_F RX4 33 4 3 := ⟨_, rfl, by decide, ga_in (List.mem_of_getElem? (i := 259) (by decide +kernel)) rfl⟩
theorem pX4_33 : ga_FP RX4 33 4 3 .long true := ⟨_, rfl, by decide, ga_in (List.mem_of_getElem? (i := 259) (by decide +kernel)) rfl, rfl, by decide +kernel, fun h => by first | rfl | cases h⟩
theorem fX4_38 : ga_F RX4 38 4 4 := ⟨_, rfl, by decide, ga_in (List.mem_of_getElem? (i := 260) (by decide +kernel)) rfl⟩
theorem pX4_38 : ga_FP RX4 38 4 4 .long true := ⟨_, rfl, by decide, ga_in (List.mem_of_getElem? (i := 260) (by decide +kernel)) rfl, rfl, by decide +kernel, fun h => by first | rfl | cases h⟩
theorem fX4_43 : ga_F RX4 43 4 5 := ⟨_, rfl, by decide, ga_in (List.mem_of_getElem? (i := 261) (by decide +kernel)) rfl⟩
theorem pX4_43 : ga_FP RX4 43 4 5 .long true := ⟨_, rfl, by decide, ga_in (List.mem_of_getElem? (i := 261) (by decide +kernel)) rfl, rfl, by decide +kernel, fun h => by first | rfl | cases h⟩
theorem fX4_48 : ga_F RX4 48 4 6 := ⟨_, rfl, by decide, ga_in (List.mem_of_getElem? (i := 262) (by decide +kernel)) rfl⟩
theorem pX4_48 : ga_FP RX4 48 4 6 (.array .long) true := ⟨_, rfl, by decide, ga_in (List.mem_of_getElem? (i := 262) (by decide +kernel)) rfl, rfl, by decide +kernel, fun h => by first | rfl | cases h⟩
theorem fX4_56 : ga_F RX4 56 4 7 := ⟨_, rfl, by decide, ga_in (List.mem_of_getElem? (i := 263) (by decide +kernel)) rfl⟩
theorem pX4_56 : ga_FP RX4 56 4 7 (.object "ThreeDays$Tape") true := ⟨_, rfl, by decide, ga_in (List.mem_of_getElem? (i := 263) (by decide +kernel)) rfl, rfl, by decide +kernel, fun h => by first | rfl | cases h⟩
theorem fX4_76 : ga_F RX4 76 4 8 := ⟨_, rfl, by decide, ga_in (List.mem_of_getElem? (i := 264) (by decide +kernel)) rfl⟩
theorem pX4_76 : ga_FP RX4 76 4 8 (.object "ThreeDays$Rules") false := ⟨_, rfl, by decide, ga_in (List.mem_of_getElem? (i := 264) (by decide +kernel)) rfl, rfl, by decide +kernel, fun h => by first | rfl | cases h⟩
theorem fX4_88 : ga_F RX4 88 4 9 := ⟨_, rfl, by decide, ga_in (List.mem_of_getElem? (i := 265) (by decide +kernel)) rfl⟩
theorem pX4_88 : ga_FP RX4 88 4 9 .int false := ⟨_, rfl, by decide, ga_in (List.mem_of_getElem? (i := 265) (by decide +kernel)) rfl, rfl, by decide +kernel, fun h => by first | rfl | cases h⟩
theorem fX4_94 : ga_F RX4 94 4 10 := ⟨_, rfl, by decide, ga_in (List.mem_of_getElem? (i := 266) (by decide +kernel)) rfl⟩
theorem pX4_94 : ga_FP RX4 94 4 10 .int false := ⟨_, rfl, by decide, ga_in (List.mem_of_getElem? (i := 266) (by decide +kernel)) rfl, rfl, by decide +kernel, fun h => by first | rfl | cases h⟩
theorem fX4_97 : ga_F RX4 97 4 11 := ⟨_, rfl, by decide, ga_in (List.mem_of_getElem? (i := 267) (by decide +kernel)) rfl⟩
theorem pX4_97 : ga_FP RX4 97 4 11 .int false := ⟨_, rfl, by decide, ga_in (List.mem_of_getElem? (i := 267) (by decide +kernel)) rfl, rfl, by decide +kernel, fun h => by first | rfl | cases h⟩
theorem fX4_104 : ga_F RX4 104 4 12 := ⟨_, rfl, by decide, ga_in (List.mem_of_getElem? (i := 268) (by decide +kernel)) rfl⟩
theorem pX4_104 : ga_FP RX4 104 4 12 .long false := ⟨_, rfl, by decide, ga_in (List.mem_of_getElem? (i := 268) (by decide +kernel)) rfl, rfl, by decide +kernel, fun h => by first | rfl | cases h⟩
theorem fX4_85 : ga_F RX4 85 4 13 := ⟨_, rfl, by decide, ga_in (List.mem_of_getElem? (i := 269) (by decide +kernel)) rfl⟩
theorem pX4_85 : ga_FP RX4 85 4 13 .int false := ⟨_, rfl, by decide, ga_in (List.mem_of_getElem? (i := 269) (by decide +kernel)) rfl, rfl, by decide +kernel, fun h => by first | rfl | cases h⟩
theorem fX10_137 : ga_F RX10 137 4 13 := ⟨_, rfl, by decide, ga_in (List.mem_of_getElem? (i := 270) (by decide +kernel)) rfl⟩
theorem pX10_137 : ga_FP RX10 137 4 13 .int false := ⟨_, rfl, by decide, ga_in (List.mem_of_getElem? (i := 270) (by decide +kernel)) rfl, rfl, by decide +kernel, fun h => by first | rfl | cases h⟩
theorem fX4_52 : ga_F RX4 52 4 14 := ⟨_, rfl, by decide, ga_in (List.mem_of_getElem? (i := 271) (by decide +kernel)) rfl⟩
theorem pX4_52 : ga_FP RX4 52 4 14 .int false := ⟨_, rfl, by decide, ga_in (List.mem_of_getElem? (i := 271) (by decide +kernel)) rfl, rfl, by decide +kernel, fun h => by first | rfl | cases h⟩
theorem fX10_140 : ga_F RX10 140 4 14 := ⟨_, rfl, by decide, ga_in (List.mem_of_getElem? (i := 272) (by decide +kernel)) rfl⟩
theorem pX10_140 : ga_FP RX10 140 4 14 .int false := ⟨_, rfl, by decide, ga_in (List.mem_of_getElem? (i := 272) (by decide +kernel)) rfl, rfl, by decide +kernel, fun h => by first | rfl | cases h⟩
theorem ar_byte : Cond.arrayClass .byte ∈ ga_T := ga_in (List.mem_of_getElem? (i := 304) (by decide +kernel)) rfl
theorem ar_long : Cond.arrayClass .long ∈ ga_T := ga_in (List.mem_of_getElem? (i := 305) (by decide +kernel)) rfl
theorem lX10_46 : Cond.classLink RX10 46 RX6 ∈ ga_T := ga_in (List.mem_of_getElem? (i := 306) (by decide +kernel)) rfl
theorem qX6 : Cond.instantiable RX6 9 ∈ ga_T := ga_in (List.mem_of_getElem? (i := 307) (by decide +kernel)) rfl
theorem nX10_48 : (RX10, 48, yX6_init, "ThreeDays") ∈ ga_nest := by decide +kernel
theorem yX6_init_ok : ga_Yi yX6_init cX6_init 1 0 := ⟨⟨ga_in (List.mem_of_getElem? (i := 85) (by decide +kernel)) rfl, ga_in (List.mem_of_getElem? (i := 310) (by decide +kernel)) rfl, by decide +kernel, by decide⟩, rfl, ga_in (List.mem_of_getElem? (i := 309) (by decide +kernel)) rfl⟩
theorem mX6_3 : Cond.methodLink RX6 3 Lib.objectInit ∈ ga_T := ga_in (List.mem_of_getElem? (i := 311) (by decide +kernel)) rfl
theorem fX6_11 : ga_F RX6 11 6 0 := ⟨_, rfl, by decide, ga_in (List.mem_of_getElem? (i := 312) (by decide +kernel)) rfl⟩
theorem pX6_11 : ga_FP RX6 11 6 0 (.array .int) true := ⟨_, rfl, by decide, ga_in (List.mem_of_getElem? (i := 312) (by decide +kernel)) rfl, rfl, by decide +kernel, fun h => by first | rfl | cases h⟩
theorem fX6_17 : ga_F RX6 17 6 1 := ⟨_, rfl, by decide, ga_in (List.mem_of_getElem? (i := 313) (by decide +kernel)) rfl⟩
theorem pX6_17 : ga_FP RX6 17 6 1 (.array .int) true := ⟨_, rfl, by decide, ga_in (List.mem_of_getElem? (i := 313) (by decide +kernel)) rfl, rfl, by decide +kernel, fun h => by first | rfl | cases h⟩
theorem fX6_20 : ga_F RX6 20 6 2 := ⟨_, rfl, by decide, ga_in (List.mem_of_getElem? (i := 314) (by decide +kernel)) rfl⟩
theorem pX6_20 : ga_FP RX6 20 6 2 (.array .int) true := ⟨_, rfl, by decide, ga_in (List.mem_of_getElem? (i := 314) (by decide +kernel)) rfl, rfl, by decide +kernel, fun h => by first | rfl | cases h⟩
theorem fX6_23 : ga_F RX6 23 6 3 := ⟨_, rfl, by decide, ga_in (List.mem_of_getElem? (i := 315) (by decide +kernel)) rfl⟩
theorem pX6_23 : ga_FP RX6 23 6 3 (.array .int) true := ⟨_, rfl, by decide, ga_in (List.mem_of_getElem? (i := 315) (by decide +kernel)) rfl, rfl, by decide +kernel, fun h => by first | rfl | cases h⟩
theorem fX6_26 : ga_F RX6 26 6 4 := ⟨_, rfl, by decide, ga_in (List.mem_of_getElem? (i := 316) (by decide +kernel)) rfl⟩
theorem pX6_26 : ga_FP RX6 26 6 4 (.array .long) true := ⟨_, rfl, by decide, ga_in (List.mem_of_getElem? (i := 316) (by decide +kernel)) rfl, rfl, by decide +kernel, fun h => by first | rfl | cases h⟩
theorem fX6_65 : ga_F RX6 65 6 5 := ⟨_, rfl, by decide, ga_in (List.mem_of_getElem? (i := 317) (by decide +kernel)) rfl⟩
theorem pX6_65 : ga_FP RX6 65 6 5 .int false := ⟨_, rfl, by decide, ga_in (List.mem_of_getElem? (i := 317) (by decide +kernel)) rfl, rfl, by decide +kernel, fun h => by first | rfl | cases h⟩
theorem fX6_34 : ga_F RX6 34 6 6 := ⟨_, rfl, by decide, ga_in (List.mem_of_getElem? (i := 318) (by decide +kernel)) rfl⟩
theorem pX6_34 : ga_FP RX6 34 6 6 .int false := ⟨_, rfl, by decide, ga_in (List.mem_of_getElem? (i := 318) (by decide +kernel)) rfl, rfl, by decide +kernel, fun h => by first | rfl | cases h⟩
theorem fX6_30 : ga_F RX6 30 6 7 := ⟨_, rfl, by decide, ga_in (List.mem_of_getElem? (i := 319) (by decide +kernel)) rfl⟩
theorem pX6_30 : ga_FP RX6 30 6 7 .int false := ⟨_, rfl, by decide, ga_in (List.mem_of_getElem? (i := 319) (by decide +kernel)) rfl, rfl, by decide +kernel, fun h => by first | rfl | cases h⟩
theorem fX6_37 : ga_F RX6 37 6 8 := ⟨_, rfl, by decide, ga_in (List.mem_of_getElem? (i := 320) (by decide +kernel)) rfl⟩
theorem pX6_37 : ga_FP RX6 37 6 8 .int false := ⟨_, rfl, by decide, ga_in (List.mem_of_getElem? (i := 320) (by decide +kernel)) rfl, rfl, by decide +kernel, fun h => by first | rfl | cases h⟩
theorem fX10_134 : ga_F RX10 134 6 8 := ⟨_, rfl, by decide, ga_in (List.mem_of_getElem? (i := 321) (by decide +kernel)) rfl⟩
theorem pX10_134 : ga_FP RX10 134 6 8 .int false := ⟨_, rfl, by decide, ga_in (List.mem_of_getElem? (i := 321) (by decide +kernel)) rfl, rfl, by decide +kernel, fun h => by first | rfl | cases h⟩
theorem lX10_56 : Cond.classLink RX10 56 RX1 ∈ ga_T := ga_in (List.mem_of_getElem? (i := 341) (by decide +kernel)) rfl
theorem qX1 : Cond.instantiable RX1 6 ∈ ga_T := ga_in (List.mem_of_getElem? (i := 342) (by decide +kernel)) rfl
theorem mX10_58 : Cond.methodLink RX10 58 yX1_init ∈ ga_T := ga_in (List.mem_of_getElem? (i := 343) (by decide +kernel)) rfl
theorem yX1_init_ok : ga_Yi yX1_init cX1_init 6 4 := ⟨⟨ga_in (List.mem_of_getElem? (i := 86) (by decide +kernel)) rfl, ga_in (List.mem_of_getElem? (i := 345) (by decide +kernel)) rfl, by decide +kernel, by decide⟩, rfl, ga_in (List.mem_of_getElem? (i := 344) (by decide +kernel)) rfl⟩
theorem mX1_3 : Cond.methodLink RX1 3 Lib.objectInit ∈ ga_T := ga_in (List.mem_of_getElem? (i := 346) (by decide +kernel)) rfl
theorem lX1_11 : Cond.classLink RX1 11 RX7 ∈ ga_T := ga_in (List.mem_of_getElem? (i := 347) (by decide +kernel)) rfl
theorem lX1_31 : Cond.classLink RX1 31 RX8 ∈ ga_T := ga_in (List.mem_of_getElem? (i := 349) (by decide +kernel)) rfl
theorem qX8 : Cond.instantiable RX8 4 ∈ ga_T := ga_in (List.mem_of_getElem? (i := 350) (by decide +kernel)) rfl
theorem mX1_33 : Cond.methodLink RX1 33 yX8_init ∈ ga_T := ga_in (List.mem_of_getElem? (i := 351) (by decide +kernel)) rfl
theorem yX8_init_ok : ga_Yi yX8_init cX8_init 3 2 := ⟨⟨ga_in (List.mem_of_getElem? (i := 87) (by decide +kernel)) rfl, ga_in (List.mem_of_getElem? (i := 353) (by decide +kernel)) rfl, by decide +kernel, by decide⟩, rfl, ga_in (List.mem_of_getElem? (i := 352) (by decide +kernel)) rfl⟩
theorem mX8_3 : Cond.methodLink RX8 3 Lib.objectInit ∈ ga_T := ga_in (List.mem_of_getElem? (i := 354) (by decide +kernel)) rfl
theorem fX8_17 : ga_F RX8 17 8 0 := ⟨_, rfl, by decide, ga_in (List.mem_of_getElem? (i := 355) (by decide +kernel)) rfl⟩
theorem pX8_17 : ga_FP RX8 17 8 0 (.object "ThreeDays$Course") true := ⟨_, rfl, by decide, ga_in (List.mem_of_getElem? (i := 355) (by decide +kernel)) rfl, rfl, by decide +kernel, fun h => by first | rfl | cases h⟩
theorem fX8_21 : ga_F RX8 21 8 1 := ⟨_, rfl, by decide, ga_in (List.mem_of_getElem? (i := 356) (by decide +kernel)) rfl⟩
theorem pX8_21 : ga_FP RX8 21 8 1 (.object "ThreeDays$Log") true := ⟨_, rfl, by decide, ga_in (List.mem_of_getElem? (i := 356) (by decide +kernel)) rfl, rfl, by decide +kernel, fun h => by first | rfl | cases h⟩
theorem fX8_13 : ga_F RX8 13 8 2 := ⟨_, rfl, by decide, ga_in (List.mem_of_getElem? (i := 357) (by decide +kernel)) rfl⟩
theorem pX8_13 : ga_FP RX8 13 8 2 (.array .int) true := ⟨_, rfl, by decide, ga_in (List.mem_of_getElem? (i := 357) (by decide +kernel)) rfl, rfl, by decide +kernel, fun h => by first | rfl | cases h⟩
theorem fX8_30 : ga_F RX8 30 8 3 := ⟨_, rfl, by decide, ga_in (List.mem_of_getElem? (i := 358) (by decide +kernel)) rfl⟩
theorem pX8_30 : ga_FP RX8 30 8 3 .int false := ⟨_, rfl, by decide, ga_in (List.mem_of_getElem? (i := 358) (by decide +kernel)) rfl, rfl, by decide +kernel, fun h => by first | rfl | cases h⟩
theorem qX7 : Cond.instantiable RX7 9 ∈ ga_T := ga_in (List.mem_of_getElem? (i := 368) (by decide +kernel)) rfl
theorem nX1_40 : (RX1, 40, yX7_init, "ThreeDays") ∈ ga_nest := by decide +kernel
theorem yX7_init_ok : ga_Yi yX7_init cX7_init 1 0 := ⟨⟨ga_in (List.mem_of_getElem? (i := 88) (by decide +kernel)) rfl, ga_in (List.mem_of_getElem? (i := 371) (by decide +kernel)) rfl, by decide +kernel, by decide⟩, rfl, ga_in (List.mem_of_getElem? (i := 370) (by decide +kernel)) rfl⟩
theorem mX7_7 : Cond.methodLink RX7 7 Lib.objectInit ∈ ga_T := ga_in (List.mem_of_getElem? (i := 372) (by decide +kernel)) rfl
theorem fX7_13 : ga_F RX7 13 7 0 := ⟨_, rfl, by decide, ga_in (List.mem_of_getElem? (i := 373) (by decide +kernel)) rfl⟩
theorem pX7_13 : ga_FP RX7 13 7 0 (.array .long) true := ⟨_, rfl, by decide, ga_in (List.mem_of_getElem? (i := 373) (by decide +kernel)) rfl, rfl, by decide +kernel, fun h => by first | rfl | cases h⟩
theorem fX8_65 : ga_F RX8 65 7 0 := ⟨_, rfl, by decide, ga_in (List.mem_of_getElem? (i := 374) (by decide +kernel)) rfl⟩
theorem fX6_50 : ga_F RX6 50 7 0 := ⟨_, rfl, by decide, ga_in (List.mem_of_getElem? (i := 375) (by decide +kernel)) rfl⟩
theorem fX7_17 : ga_F RX7 17 7 1 := ⟨_, rfl, by decide, ga_in (List.mem_of_getElem? (i := 376) (by decide +kernel)) rfl⟩
theorem pX7_17 : ga_FP RX7 17 7 1 .boolean false := ⟨_, rfl, by decide, ga_in (List.mem_of_getElem? (i := 376) (by decide +kernel)) rfl, rfl, by decide +kernel, fun h => by first | rfl | cases h⟩
theorem fX1_55 : ga_F RX1 55 7 1 := ⟨_, rfl, by decide, ga_in (List.mem_of_getElem? (i := 377) (by decide +kernel)) rfl⟩
theorem pX1_55 : ga_FP RX1 55 7 1 .boolean false := ⟨_, rfl, by decide, ga_in (List.mem_of_getElem? (i := 377) (by decide +kernel)) rfl, rfl, by decide +kernel, fun h => by first | rfl | cases h⟩
theorem fX7_21 : ga_F RX7 21 7 2 := ⟨_, rfl, by decide, ga_in (List.mem_of_getElem? (i := 378) (by decide +kernel)) rfl⟩
theorem pX7_21 : ga_FP RX7 21 7 2 .boolean false := ⟨_, rfl, by decide, ga_in (List.mem_of_getElem? (i := 378) (by decide +kernel)) rfl, rfl, by decide +kernel, fun h => by first | rfl | cases h⟩
theorem fX8_79 : ga_F RX8 79 7 2 := ⟨_, rfl, by decide, ga_in (List.mem_of_getElem? (i := 379) (by decide +kernel)) rfl⟩
theorem pX8_79 : ga_FP RX8 79 7 2 .boolean false := ⟨_, rfl, by decide, ga_in (List.mem_of_getElem? (i := 379) (by decide +kernel)) rfl, rfl, by decide +kernel, fun h => by first | rfl | cases h⟩
theorem fX2_46 : ga_F RX2 46 7 2 := ⟨_, rfl, by decide, ga_in (List.mem_of_getElem? (i := 380) (by decide +kernel)) rfl⟩
theorem pX2_46 : ga_FP RX2 46 7 2 .boolean false := ⟨_, rfl, by decide, ga_in (List.mem_of_getElem? (i := 380) (by decide +kernel)) rfl, rfl, by decide +kernel, fun h => by first | rfl | cases h⟩
theorem fX7_24 : ga_F RX7 24 7 3 := ⟨_, rfl, by decide, ga_in (List.mem_of_getElem? (i := 381) (by decide +kernel)) rfl⟩
theorem pX7_24 : ga_FP RX7 24 7 3 .boolean false := ⟨_, rfl, by decide, ga_in (List.mem_of_getElem? (i := 381) (by decide +kernel)) rfl, rfl, by decide +kernel, fun h => by first | rfl | cases h⟩
theorem fX8_90 : ga_F RX8 90 7 3 := ⟨_, rfl, by decide, ga_in (List.mem_of_getElem? (i := 382) (by decide +kernel)) rfl⟩
theorem pX8_90 : ga_FP RX8 90 7 3 .boolean false := ⟨_, rfl, by decide, ga_in (List.mem_of_getElem? (i := 382) (by decide +kernel)) rfl, rfl, by decide +kernel, fun h => by first | rfl | cases h⟩
theorem fX7_28 : ga_F RX7 28 7 4 := ⟨_, rfl, by decide, ga_in (List.mem_of_getElem? (i := 383) (by decide +kernel)) rfl⟩
theorem pX7_28 : ga_FP RX7 28 7 4 .int false := ⟨_, rfl, by decide, ga_in (List.mem_of_getElem? (i := 383) (by decide +kernel)) rfl, rfl, by decide +kernel, fun h => by first | rfl | cases h⟩
theorem fX8_87 : ga_F RX8 87 7 4 := ⟨_, rfl, by decide, ga_in (List.mem_of_getElem? (i := 384) (by decide +kernel)) rfl⟩
theorem pX8_87 : ga_FP RX8 87 7 4 .int false := ⟨_, rfl, by decide, ga_in (List.mem_of_getElem? (i := 384) (by decide +kernel)) rfl, rfl, by decide +kernel, fun h => by first | rfl | cases h⟩
theorem fX2_52 : ga_F RX2 52 7 4 := ⟨_, rfl, by decide, ga_in (List.mem_of_getElem? (i := 385) (by decide +kernel)) rfl⟩
theorem pX2_52 : ga_FP RX2 52 7 4 .int false := ⟨_, rfl, by decide, ga_in (List.mem_of_getElem? (i := 385) (by decide +kernel)) rfl, rfl, by decide +kernel, fun h => by first | rfl | cases h⟩
theorem fX7_32 : ga_F RX7 32 7 5 := ⟨_, rfl, by decide, ga_in (List.mem_of_getElem? (i := 386) (by decide +kernel)) rfl⟩
theorem pX7_32 : ga_FP RX7 32 7 5 .int false := ⟨_, rfl, by decide, ga_in (List.mem_of_getElem? (i := 386) (by decide +kernel)) rfl, rfl, by decide +kernel, fun h => by first | rfl | cases h⟩
theorem fX8_93 : ga_F RX8 93 7 5 := ⟨_, rfl, by decide, ga_in (List.mem_of_getElem? (i := 387) (by decide +kernel)) rfl⟩
theorem pX8_93 : ga_FP RX8 93 7 5 .int false := ⟨_, rfl, by decide, ga_in (List.mem_of_getElem? (i := 387) (by decide +kernel)) rfl, rfl, by decide +kernel, fun h => by first | rfl | cases h⟩
theorem fX7_35 : ga_F RX7 35 7 6 := ⟨_, rfl, by decide, ga_in (List.mem_of_getElem? (i := 388) (by decide +kernel)) rfl⟩
theorem pX7_35 : ga_FP RX7 35 7 6 .int false := ⟨_, rfl, by decide, ga_in (List.mem_of_getElem? (i := 388) (by decide +kernel)) rfl, rfl, by decide +kernel, fun h => by first | rfl | cases h⟩
theorem fX8_121 : ga_F RX8 121 7 6 := ⟨_, rfl, by decide, ga_in (List.mem_of_getElem? (i := 389) (by decide +kernel)) rfl⟩
theorem pX8_121 : ga_FP RX8 121 7 6 .int false := ⟨_, rfl, by decide, ga_in (List.mem_of_getElem? (i := 389) (by decide +kernel)) rfl, rfl, by decide +kernel, fun h => by first | rfl | cases h⟩
theorem fX6_40 : ga_F RX6 40 7 7 := ⟨_, rfl, by decide, ga_in (List.mem_of_getElem? (i := 390) (by decide +kernel)) rfl⟩
theorem pX6_40 : ga_FP RX6 40 7 7 .boolean false := ⟨_, rfl, by decide, ga_in (List.mem_of_getElem? (i := 390) (by decide +kernel)) rfl, rfl, by decide +kernel, fun h => by first | rfl | cases h⟩
theorem fX1_99 : ga_F RX1 99 7 7 := ⟨_, rfl, by decide, ga_in (List.mem_of_getElem? (i := 391) (by decide +kernel)) rfl⟩
theorem pX1_99 : ga_FP RX1 99 7 7 .boolean false := ⟨_, rfl, by decide, ga_in (List.mem_of_getElem? (i := 391) (by decide +kernel)) rfl, rfl, by decide +kernel, fun h => by first | rfl | cases h⟩
theorem fX10_170 : ga_F RX10 170 7 7 := ⟨_, rfl, by decide, ga_in (List.mem_of_getElem? (i := 392) (by decide +kernel)) rfl⟩
theorem pX10_170 : ga_FP RX10 170 7 7 .boolean false := ⟨_, rfl, by decide, ga_in (List.mem_of_getElem? (i := 392) (by decide +kernel)) rfl, rfl, by decide +kernel, fun h => by first | rfl | cases h⟩
theorem fX6_57 : ga_F RX6 57 7 8 := ⟨_, rfl, by decide, ga_in (List.mem_of_getElem? (i := 393) (by decide +kernel)) rfl⟩
theorem pX6_57 : ga_FP RX6 57 7 8 .long false := ⟨_, rfl, by decide, ga_in (List.mem_of_getElem? (i := 393) (by decide +kernel)) rfl, rfl, by decide +kernel, fun h => by first | rfl | cases h⟩
theorem fX1_117 : ga_F RX1 117 7 8 := ⟨_, rfl, by decide, ga_in (List.mem_of_getElem? (i := 394) (by decide +kernel)) rfl⟩
theorem pX1_117 : ga_FP RX1 117 7 8 .long false := ⟨_, rfl, by decide, ga_in (List.mem_of_getElem? (i := 394) (by decide +kernel)) rfl, rfl, by decide +kernel, fun h => by first | rfl | cases h⟩
theorem fX10_166 : ga_F RX10 166 7 8 := ⟨_, rfl, by decide, ga_in (List.mem_of_getElem? (i := 395) (by decide +kernel)) rfl⟩
theorem pX10_166 : ga_FP RX10 166 7 8 .long false := ⟨_, rfl, by decide, ga_in (List.mem_of_getElem? (i := 395) (by decide +kernel)) rfl, rfl, by decide +kernel, fun h => by first | rfl | cases h⟩
theorem fX1_19 : ga_F RX1 19 1 0 := ⟨_, rfl, by decide, ga_in (List.mem_of_getElem? (i := 415) (by decide +kernel)) rfl⟩
theorem pX1_19 : ga_FP RX1 19 1 0 (.object "ThreeDays$Riders") true := ⟨_, rfl, by decide, ga_in (List.mem_of_getElem? (i := 415) (by decide +kernel)) rfl, rfl, by decide +kernel, fun h => by first | rfl | cases h⟩
theorem fX1_23 : ga_F RX1 23 1 1 := ⟨_, rfl, by decide, ga_in (List.mem_of_getElem? (i := 416) (by decide +kernel)) rfl⟩
theorem pX1_23 : ga_FP RX1 23 1 1 (.object "ThreeDays$Log") true := ⟨_, rfl, by decide, ga_in (List.mem_of_getElem? (i := 416) (by decide +kernel)) rfl, rfl, by decide +kernel, fun h => by first | rfl | cases h⟩
theorem fX1_36 : ga_F RX1 36 1 2 := ⟨_, rfl, by decide, ga_in (List.mem_of_getElem? (i := 417) (by decide +kernel)) rfl⟩
theorem pX1_36 : ga_FP RX1 36 1 2 (.object "ThreeDays$Tally") true := ⟨_, rfl, by decide, ga_in (List.mem_of_getElem? (i := 417) (by decide +kernel)) rfl, rfl, by decide +kernel, fun h => by first | rfl | cases h⟩
theorem fX1_13 : ga_F RX1 13 1 3 := ⟨_, rfl, by decide, ga_in (List.mem_of_getElem? (i := 418) (by decide +kernel)) rfl⟩
theorem pX1_13 : ga_FP RX1 13 1 3 (.array (.object "ThreeDays$Sheet")) true := ⟨_, rfl, by decide, ga_in (List.mem_of_getElem? (i := 418) (by decide +kernel)) rfl, rfl, by decide +kernel, fun h => by first | rfl | cases h⟩
theorem fX1_27 : ga_F RX1 27 1 4 := ⟨_, rfl, by decide, ga_in (List.mem_of_getElem? (i := 419) (by decide +kernel)) rfl⟩
theorem pX1_27 : ga_FP RX1 27 1 4 (.object "ThreeDays$Rules") false := ⟨_, rfl, by decide, ga_in (List.mem_of_getElem? (i := 419) (by decide +kernel)) rfl, rfl, by decide +kernel, fun h => by first | rfl | cases h⟩
theorem fX1_69 : ga_F RX1 69 1 5 := ⟨_, rfl, by decide, ga_in (List.mem_of_getElem? (i := 420) (by decide +kernel)) rfl⟩
theorem pX1_69 : ga_FP RX1 69 1 5 .int false := ⟨_, rfl, by decide, ga_in (List.mem_of_getElem? (i := 420) (by decide +kernel)) rfl, rfl, by decide +kernel, fun h => by first | rfl | cases h⟩
theorem fX10_10 : ga_F RX10 10 10 0 := ⟨_, rfl, by decide, ga_in (List.mem_of_getElem? (i := 434) (by decide +kernel)) rfl⟩
theorem pX10_10 : ga_FP RX10 10 10 0 (.object "ThreeDays$Tape") true := ⟨_, rfl, by decide, ga_in (List.mem_of_getElem? (i := 434) (by decide +kernel)) rfl, rfl, by decide +kernel, fun h => by first | rfl | cases h⟩
theorem fX10_19 : ga_F RX10 19 10 1 := ⟨_, rfl, by decide, ga_in (List.mem_of_getElem? (i := 435) (by decide +kernel)) rfl⟩
theorem pX10_19 : ga_FP RX10 19 10 1 (.object "ThreeDays$Riders") true := ⟨_, rfl, by decide, ga_in (List.mem_of_getElem? (i := 435) (by decide +kernel)) rfl, rfl, by decide +kernel, fun h => by first | rfl | cases h⟩
theorem fX10_26 : ga_F RX10 26 10 2 := ⟨_, rfl, by decide, ga_in (List.mem_of_getElem? (i := 436) (by decide +kernel)) rfl⟩
theorem pX10_26 : ga_FP RX10 26 10 2 (.object "ThreeDays$Course") true := ⟨_, rfl, by decide, ga_in (List.mem_of_getElem? (i := 436) (by decide +kernel)) rfl, rfl, by decide +kernel, fun h => by first | rfl | cases h⟩
theorem fX10_33 : ga_F RX10 33 10 3 := ⟨_, rfl, by decide, ga_in (List.mem_of_getElem? (i := 437) (by decide +kernel)) rfl⟩
theorem pX10_33 : ga_FP RX10 33 10 3 (.object "ThreeDays$Log") true := ⟨_, rfl, by decide, ga_in (List.mem_of_getElem? (i := 437) (by decide +kernel)) rfl, rfl, by decide +kernel, fun h => by first | rfl | cases h⟩
theorem fX10_42 : ga_F RX10 42 10 4 := ⟨_, rfl, by decide, ga_in (List.mem_of_getElem? (i := 438) (by decide +kernel)) rfl⟩
theorem pX10_42 : ga_FP RX10 42 10 4 (.object "ThreeDays$Reader") true := ⟨_, rfl, by decide, ga_in (List.mem_of_getElem? (i := 438) (by decide +kernel)) rfl, rfl, by decide +kernel, fun h => by first | rfl | cases h⟩
theorem fX10_61 : ga_F RX10 61 10 5 := ⟨_, rfl, by decide, ga_in (List.mem_of_getElem? (i := 439) (by decide +kernel)) rfl⟩
theorem pX10_61 : ga_FP RX10 61 10 5 (.object "ThreeDays$Board") true := ⟨_, rfl, by decide, ga_in (List.mem_of_getElem? (i := 439) (by decide +kernel)) rfl, rfl, by decide +kernel, fun h => by first | rfl | cases h⟩
theorem fX10_49 : ga_F RX10 49 10 6 := ⟨_, rfl, by decide, ga_in (List.mem_of_getElem? (i := 440) (by decide +kernel)) rfl⟩
theorem pX10_49 : ga_FP RX10 49 10 6 (.object "ThreeDays$Rules") false := ⟨_, rfl, by decide, ga_in (List.mem_of_getElem? (i := 440) (by decide +kernel)) rfl, rfl, by decide +kernel, fun h => by first | rfl | cases h⟩
theorem fX10_53 : ga_F RX10 53 10 7 := ⟨_, rfl, by decide, ga_in (List.mem_of_getElem? (i := 441) (by decide +kernel)) rfl⟩
theorem pX10_53 : ga_FP RX10 53 10 7 (.object "ThreeDays$Rules") false := ⟨_, rfl, by decide, ga_in (List.mem_of_getElem? (i := 441) (by decide +kernel)) rfl, rfl, by decide +kernel, fun h => by first | rfl | cases h⟩
theorem fX10_65 : ga_F RX10 65 10 8 := ⟨_, rfl, by decide, ga_in (List.mem_of_getElem? (i := 442) (by decide +kernel)) rfl⟩
theorem pX10_65 : ga_FP RX10 65 10 8 .int false := ⟨_, rfl, by decide, ga_in (List.mem_of_getElem? (i := 442) (by decide +kernel)) rfl, rfl, by decide +kernel, fun h => by first | rfl | cases h⟩
theorem mL_13 : Cond.methodLink RL 13 yX10_feed ∈ ga_T := ga_in (List.mem_of_getElem? (i := 462) (by decide +kernel)) rfl
theorem yX10_feed_ok : ga_Yv yX10_feed cX10_feed 6 (some .int) 5 := ⟨⟨ga_in (List.mem_of_getElem? (i := 75) (by decide +kernel)) rfl, ga_in (List.mem_of_getElem? (i := 465) (by decide +kernel)) rfl, by decide +kernel, by decide⟩, ga_in (List.mem_of_getElem? (i := 463) (by decide +kernel)) rfl, ga_in (List.mem_of_getElem? (i := 464) (by decide +kernel)) rfl⟩
theorem mX10_69 : Cond.methodLink RX10 69 yX9_hasRoom ∈ ga_T := ga_in (List.mem_of_getElem? (i := 466) (by decide +kernel)) rfl
theorem yX9_hasRoom_ok : ga_Yv yX9_hasRoom cX9_hasRoom 1 (some .boolean) 0 := ⟨⟨ga_in (List.mem_of_getElem? (i := 76) (by decide +kernel)) rfl, ga_in (List.mem_of_getElem? (i := 469) (by decide +kernel)) rfl, by decide +kernel, by decide⟩, ga_in (List.mem_of_getElem? (i := 467) (by decide +kernel)) rfl, ga_in (List.mem_of_getElem? (i := 468) (by decide +kernel)) rfl⟩
theorem mX10_73 : Cond.methodLink RX10 73 yX9_append ∈ ga_T := ga_in (List.mem_of_getElem? (i := 470) (by decide +kernel)) rfl
theorem yX9_append_ok : ga_Yv yX9_append cX9_append 3 none 1 := ⟨⟨ga_in (List.mem_of_getElem? (i := 76) (by decide +kernel)) rfl, ga_in (List.mem_of_getElem? (i := 473) (by decide +kernel)) rfl, by decide +kernel, by decide⟩, ga_in (List.mem_of_getElem? (i := 471) (by decide +kernel)) rfl, ga_in (List.mem_of_getElem? (i := 472) (by decide +kernel)) rfl⟩
theorem mL_18 : Cond.methodLink RL 18 yX10_end ∈ ga_T := ga_in (List.mem_of_getElem? (i := 474) (by decide +kernel)) rfl
theorem yX10_end_ok : ga_Yv yX10_end cX10_end 2 (some .boolean) 1 := ⟨⟨ga_in (List.mem_of_getElem? (i := 75) (by decide +kernel)) rfl, ga_in (List.mem_of_getElem? (i := 477) (by decide +kernel)) rfl, by decide +kernel, by decide⟩, ga_in (List.mem_of_getElem? (i := 475) (by decide +kernel)) rfl, ga_in (List.mem_of_getElem? (i := 476) (by decide +kernel)) rfl⟩
theorem mX10_80 : Cond.methodLink RX10 80 yX9_cut ∈ ga_T := ga_in (List.mem_of_getElem? (i := 478) (by decide +kernel)) rfl
theorem yX9_cut_ok : ga_Yv yX9_cut cX9_cut 2 (some .boolean) 1 := ⟨⟨ga_in (List.mem_of_getElem? (i := 76) (by decide +kernel)) rfl, ga_in (List.mem_of_getElem? (i := 481) (by decide +kernel)) rfl, by decide +kernel, by decide⟩, ga_in (List.mem_of_getElem? (i := 479) (by decide +kernel)) rfl, ga_in (List.mem_of_getElem? (i := 480) (by decide +kernel)) rfl⟩
theorem nX9_17 : (RX9, 17, yX10_isWithin, "ThreeDays") ∈ ga_nest := by decide +kernel
theorem yX10_isWithin_ok : ga_Ys yX10_isWithin cX10_isWithin 3 (some .boolean) 3 := ⟨⟨ga_in (List.mem_of_getElem? (i := 75) (by decide +kernel)) rfl, ga_in (List.mem_of_getElem? (i := 484) (by decide +kernel)) rfl, by decide +kernel, by decide⟩, ga_in (List.mem_of_getElem? (i := 483) (by decide +kernel)) rfl⟩
theorem mL_23 : Cond.methodLink RL 23 yX10_rider ∈ ga_T := ga_in (List.mem_of_getElem? (i := 485) (by decide +kernel)) rfl
theorem yX10_rider_ok : ga_Yv yX10_rider cX10_rider 2 (some .int) 1 := ⟨⟨ga_in (List.mem_of_getElem? (i := 75) (by decide +kernel)) rfl, ga_in (List.mem_of_getElem? (i := 488) (by decide +kernel)) rfl, by decide +kernel, by decide⟩, ga_in (List.mem_of_getElem? (i := 486) (by decide +kernel)) rfl, ga_in (List.mem_of_getElem? (i := 487) (by decide +kernel)) rfl⟩
theorem mX10_84 : Cond.methodLink RX10 84 yX5_add ∈ ga_T := ga_in (List.mem_of_getElem? (i := 489) (by decide +kernel)) rfl
theorem yX5_add_ok : ga_Yv yX5_add cX5_add 2 (some .int) 1 := ⟨⟨ga_in (List.mem_of_getElem? (i := 77) (by decide +kernel)) rfl, ga_in (List.mem_of_getElem? (i := 492) (by decide +kernel)) rfl, by decide +kernel, by decide⟩, ga_in (List.mem_of_getElem? (i := 490) (by decide +kernel)) rfl, ga_in (List.mem_of_getElem? (i := 491) (by decide +kernel)) rfl⟩
theorem nX5_22 : (RX5, 22, yX10_isWithin, "ThreeDays") ∈ ga_nest := by decide +kernel
theorem mX5_26 : Cond.methodLink RX5 26 yX5_sizeOfTeam ∈ ga_T := ga_in (List.mem_of_getElem? (i := 494) (by decide +kernel)) rfl
theorem yX5_sizeOfTeam_ok : ga_Yv yX5_sizeOfTeam cX5_sizeOfTeam 2 (some .int) 1 := ⟨⟨ga_in (List.mem_of_getElem? (i := 77) (by decide +kernel)) rfl, ga_in (List.mem_of_getElem? (i := 497) (by decide +kernel)) rfl, by decide +kernel, by decide⟩, ga_in (List.mem_of_getElem? (i := 495) (by decide +kernel)) rfl, ga_in (List.mem_of_getElem? (i := 496) (by decide +kernel)) rfl⟩
theorem mL_28 : Cond.methodLink RL 28 yX10_fence ∈ ga_T := ga_in (List.mem_of_getElem? (i := 498) (by decide +kernel)) rfl
theorem yX10_fence_ok : ga_Yv yX10_fence cX10_fence 3 (some .int) 1 := ⟨⟨ga_in (List.mem_of_getElem? (i := 75) (by decide +kernel)) rfl, ga_in (List.mem_of_getElem? (i := 501) (by decide +kernel)) rfl, by decide +kernel, by decide⟩, ga_in (List.mem_of_getElem? (i := 499) (by decide +kernel)) rfl, ga_in (List.mem_of_getElem? (i := 500) (by decide +kernel)) rfl⟩
theorem mX10_88 : Cond.methodLink RX10 88 yX2_addFence ∈ ga_T := ga_in (List.mem_of_getElem? (i := 502) (by decide +kernel)) rfl
theorem yX2_addFence_ok : ga_Yv yX2_addFence cX2_addFence 2 (some .int) 1 := ⟨⟨ga_in (List.mem_of_getElem? (i := 78) (by decide +kernel)) rfl, ga_in (List.mem_of_getElem? (i := 505) (by decide +kernel)) rfl, by decide +kernel, by decide⟩, ga_in (List.mem_of_getElem? (i := 503) (by decide +kernel)) rfl, ga_in (List.mem_of_getElem? (i := 504) (by decide +kernel)) rfl⟩
theorem nX2_25 : (RX2, 25, yX10_isWithin, "ThreeDays") ∈ ga_nest := by decide +kernel
theorem mX2_32 : Cond.methodLink RX2 32 yX2_setOptimum ∈ ga_T := ga_in (List.mem_of_getElem? (i := 507) (by decide +kernel)) rfl
theorem yX2_setOptimum_ok : ga_Yv yX2_setOptimum cX2_setOptimum 1 none 0 := ⟨⟨ga_in (List.mem_of_getElem? (i := 78) (by decide +kernel)) rfl, ga_in (List.mem_of_getElem? (i := 510) (by decide +kernel)) rfl, by decide +kernel, by decide⟩, ga_in (List.mem_of_getElem? (i := 509) (by decide +kernel)) rfl, ga_in (List.mem_of_getElem? (i := 0) (by decide +kernel)) rfl⟩
theorem mX10_91 : Cond.methodLink RX10 91 yX1_forget ∈ ga_T := ga_in (List.mem_of_getElem? (i := 511) (by decide +kernel)) rfl
theorem yX1_forget_ok : ga_Yv yX1_forget cX1_forget 2 none 0 := ⟨⟨ga_in (List.mem_of_getElem? (i := 86) (by decide +kernel)) rfl, ga_in (List.mem_of_getElem? (i := 514) (by decide +kernel)) rfl, by decide +kernel, by decide⟩, ga_in (List.mem_of_getElem? (i := 512) (by decide +kernel)) rfl, ga_in (List.mem_of_getElem? (i := 513) (by decide +kernel)) rfl⟩
theorem mX1_41 : Cond.methodLink RX1 41 yX1_markStale ∈ ga_T := ga_in (List.mem_of_getElem? (i := 515) (by decide +kernel)) rfl
theorem yX1_markStale_ok : ga_Yv yX1_markStale cX1_markStale 2 none 1 := ⟨⟨ga_in (List.mem_of_getElem? (i := 86) (by decide +kernel)) rfl, ga_in (List.mem_of_getElem? (i := 518) (by decide +kernel)) rfl, by decide +kernel, by decide⟩, ga_in (List.mem_of_getElem? (i := 517) (by decide +kernel)) rfl, ga_in (List.mem_of_getElem? (i := 1) (by decide +kernel)) rfl⟩
theorem nX1_87 : (RX1, 87, yX10_isWithin, "ThreeDays") ∈ ga_nest := by decide +kernel
theorem mL_32 : Cond.methodLink RL 32 yX10_course ∈ ga_T := ga_in (List.mem_of_getElem? (i := 520) (by decide +kernel)) rfl
theorem yX10_course_ok : ga_Yv yX10_course cX10_course 4 (some .int) 2 := ⟨⟨ga_in (List.mem_of_getElem? (i := 75) (by decide +kernel)) rfl, ga_in (List.mem_of_getElem? (i := 523) (by decide +kernel)) rfl, by decide +kernel, by decide⟩, ga_in (List.mem_of_getElem? (i := 521) (by decide +kernel)) rfl, ga_in (List.mem_of_getElem? (i := 522) (by decide +kernel)) rfl⟩
theorem mX10_94 : Cond.methodLink RX10 94 yX2_measure ∈ ga_T := ga_in (List.mem_of_getElem? (i := 524) (by decide +kernel)) rfl
theorem yX2_measure_ok : ga_Yv yX2_measure cX2_measure 3 (some .int) 2 := ⟨⟨ga_in (List.mem_of_getElem? (i := 78) (by decide +kernel)) rfl, ga_in (List.mem_of_getElem? (i := 527) (by decide +kernel)) rfl, by decide +kernel, by decide⟩, ga_in (List.mem_of_getElem? (i := 525) (by decide +kernel)) rfl, ga_in (List.mem_of_getElem? (i := 526) (by decide +kernel)) rfl⟩
theorem mL_37 : Cond.methodLink RL 37 yX10_clock ∈ ga_T := ga_in (List.mem_of_getElem? (i := 528) (by decide +kernel)) rfl
theorem yX10_clock_ok : ga_Yv yX10_clock cX10_clock 4 (some .boolean) 2 := ⟨⟨ga_in (List.mem_of_getElem? (i := 75) (by decide +kernel)) rfl, ga_in (List.mem_of_getElem? (i := 531) (by decide +kernel)) rfl, by decide +kernel, by decide⟩, ga_in (List.mem_of_getElem? (i := 529) (by decide +kernel)) rfl, ga_in (List.mem_of_getElem? (i := 530) (by decide +kernel)) rfl⟩
theorem mX10_98 : Cond.methodLink RX10 98 yX2_setClock ∈ ga_T := ga_in (List.mem_of_getElem? (i := 532) (by decide +kernel)) rfl
theorem yX2_setClock_ok : ga_Yv yX2_setClock cX2_setClock 3 (some .boolean) 2 := ⟨⟨ga_in (List.mem_of_getElem? (i := 78) (by decide +kernel)) rfl, ga_in (List.mem_of_getElem? (i := 535) (by decide +kernel)) rfl, by decide +kernel, by decide⟩, ga_in (List.mem_of_getElem? (i := 533) (by decide +kernel)) rfl, ga_in (List.mem_of_getElem? (i := 534) (by decide +kernel)) rfl⟩
theorem mL_42 : Cond.methodLink RL 42 yX10_out ∈ ga_T := ga_in (List.mem_of_getElem? (i := 536) (by decide +kernel)) rfl
theorem yX10_out_ok : ga_Yv yX10_out cX10_out 4 (some .boolean) 2 := ⟨⟨ga_in (List.mem_of_getElem? (i := 75) (by decide +kernel)) rfl, ga_in (List.mem_of_getElem? (i := 539) (by decide +kernel)) rfl, by decide +kernel, by decide⟩, ga_in (List.mem_of_getElem? (i := 537) (by decide +kernel)) rfl, ga_in (List.mem_of_getElem? (i := 538) (by decide +kernel)) rfl⟩
theorem mX10_102 : Cond.methodLink RX10 102 yX2_takeOut ∈ ga_T := ga_in (List.mem_of_getElem? (i := 540) (by decide +kernel)) rfl
theorem yX2_takeOut_ok : ga_Yv yX2_takeOut cX2_takeOut 3 (some .boolean) 2 := ⟨⟨ga_in (List.mem_of_getElem? (i := 78) (by decide +kernel)) rfl, ga_in (List.mem_of_getElem? (i := 543) (by decide +kernel)) rfl, by decide +kernel, by decide⟩, ga_in (List.mem_of_getElem? (i := 541) (by decide +kernel)) rfl, ga_in (List.mem_of_getElem? (i := 542) (by decide +kernel)) rfl⟩
theorem mX2_41 : Cond.methodLink RX2 41 yX2_hasFence ∈ ga_T := ga_in (List.mem_of_getElem? (i := 544) (by decide +kernel)) rfl
theorem yX2_hasFence_ok : ga_Yv yX2_hasFence cX2_hasFence 2 (some .boolean) 1 := ⟨⟨ga_in (List.mem_of_getElem? (i := 78) (by decide +kernel)) rfl, ga_in (List.mem_of_getElem? (i := 547) (by decide +kernel)) rfl, by decide +kernel, by decide⟩, ga_in (List.mem_of_getElem? (i := 545) (by decide +kernel)) rfl, ga_in (List.mem_of_getElem? (i := 546) (by decide +kernel)) rfl⟩
theorem kX2_45 : Cond.constant RX2 45 (86399) ∈ ga_T := ga_in (List.mem_of_getElem? (i := 548) (by decide +kernel)) rfl
theorem mL_46 : Cond.methodLink RL 46 yX10_report ∈ ga_T := ga_in (List.mem_of_getElem? (i := 549) (by decide +kernel)) rfl
theorem yX10_report_ok : ga_Yv yX10_report cX10_report 6 (some .int) 5 := ⟨⟨ga_in (List.mem_of_getElem? (i := 75) (by decide +kernel)) rfl, ga_in (List.mem_of_getElem? (i := 552) (by decide +kernel)) rfl, by decide +kernel, by decide⟩, ga_in (List.mem_of_getElem? (i := 550) (by decide +kernel)) rfl, ga_in (List.mem_of_getElem? (i := 551) (by decide +kernel)) rfl⟩
theorem mX10_105 : Cond.methodLink RX10 105 yX5_has ∈ ga_T := ga_in (List.mem_of_getElem? (i := 553) (by decide +kernel)) rfl
theorem yX5_has_ok : ga_Yv yX5_has cX5_has 2 (some .boolean) 1 := ⟨⟨ga_in (List.mem_of_getElem? (i := 77) (by decide +kernel)) rfl, ga_in (List.mem_of_getElem? (i := 556) (by decide +kernel)) rfl, by decide +kernel, by decide⟩, ga_in (List.mem_of_getElem? (i := 554) (by decide +kernel)) rfl, ga_in (List.mem_of_getElem? (i := 555) (by decide +kernel)) rfl⟩
theorem mX10_108 : Cond.methodLink RX10 108 yX10_canBe ∈ ga_T := ga_in (List.mem_of_getElem? (i := 557) (by decide +kernel)) rfl
theorem yX10_canBe_ok : ga_Yv yX10_canBe cX10_canBe 5 (some .boolean) 4 := ⟨⟨ga_in (List.mem_of_getElem? (i := 75) (by decide +kernel)) rfl, ga_in (List.mem_of_getElem? (i := 560) (by decide +kernel)) rfl, by decide +kernel, by decide⟩, ga_in (List.mem_of_getElem? (i := 559) (by decide +kernel)) rfl, ga_in (List.mem_of_getElem? (i := 2) (by decide +kernel)) rfl⟩
theorem mX10_122 : Cond.methodLink RX10 122 yX10_isWithin ∈ ga_T := ga_in (List.mem_of_getElem? (i := 561) (by decide +kernel)) rfl
theorem kX10_204 : Cond.constant RX10 204 (86399) ∈ ga_T := ga_in (List.mem_of_getElem? (i := 562) (by decide +kernel)) rfl
theorem mX10_205 : Cond.methodLink RX10 205 yX2_hasFence ∈ ga_T := ga_in (List.mem_of_getElem? (i := 563) (by decide +kernel)) rfl
theorem mX10_112 : Cond.methodLink RX10 112 yX3_addReport ∈ ga_T := ga_in (List.mem_of_getElem? (i := 564) (by decide +kernel)) rfl
theorem yX3_addReport_ok : ga_Yv yX3_addReport cX3_addReport 8 (some .int) 5 := ⟨⟨ga_in (List.mem_of_getElem? (i := 79) (by decide +kernel)) rfl, ga_in (List.mem_of_getElem? (i := 567) (by decide +kernel)) rfl, by decide +kernel, by decide⟩, ga_in (List.mem_of_getElem? (i := 565) (by decide +kernel)) rfl, ga_in (List.mem_of_getElem? (i := 566) (by decide +kernel)) rfl⟩
theorem nX3_29 : (RX3, 29, yX10_isWithin, "ThreeDays") ∈ ga_nest := by decide +kernel
theorem qX0 : Cond.instantiable RX0 8 ∈ ga_T := ga_in (List.mem_of_getElem? (i := 569) (by decide +kernel)) rfl
theorem mX3_33 : Cond.methodLink RX3 33 yX0_init ∈ ga_T := ga_in (List.mem_of_getElem? (i := 570) (by decide +kernel)) rfl
theorem yX0_init_ok : ga_Yi yX0_init cX0_init 6 5 := ⟨⟨ga_in (List.mem_of_getElem? (i := 90) (by decide +kernel)) rfl, ga_in (List.mem_of_getElem? (i := 572) (by decide +kernel)) rfl, by decide +kernel, by decide⟩, rfl, ga_in (List.mem_of_getElem? (i := 571) (by decide +kernel)) rfl⟩
theorem mX0_3 : Cond.methodLink RX0 3 Lib.objectInit ∈ ga_T := ga_in (List.mem_of_getElem? (i := 573) (by decide +kernel)) rfl
theorem fX0_15 : ga_F RX0 15 0 0 := ⟨_, rfl, by decide, ga_in (List.mem_of_getElem? (i := 574) (by decide +kernel)) rfl⟩
theorem pX0_15 : ga_FP RX0 15 0 0 .int true := ⟨_, rfl, by decide, ga_in (List.mem_of_getElem? (i := 574) (by decide +kernel)) rfl, rfl, by decide +kernel, fun h => by first | rfl | cases h⟩
theorem fX3_54 : ga_F RX3 54 0 0 := ⟨_, rfl, by decide, ga_in (List.mem_of_getElem? (i := 575) (by decide +kernel)) rfl⟩
theorem fX0_18 : ga_F RX0 18 0 1 := ⟨_, rfl, by decide, ga_in (List.mem_of_getElem? (i := 576) (by decide +kernel)) rfl⟩
theorem pX0_18 : ga_FP RX0 18 0 1 .int true := ⟨_, rfl, by decide, ga_in (List.mem_of_getElem? (i := 576) (by decide +kernel)) rfl, rfl, by decide +kernel, fun h => by first | rfl | cases h⟩
theorem fX8_73 : ga_F RX8 73 0 1 := ⟨_, rfl, by decide, ga_in (List.mem_of_getElem? (i := 577) (by decide +kernel)) rfl⟩
theorem fX3_48 : ga_F RX3 48 0 1 := ⟨_, rfl, by decide, ga_in (List.mem_of_getElem? (i := 578) (by decide +kernel)) rfl⟩
theorem fX0_21 : ga_F RX0 21 0 2 := ⟨_, rfl, by decide, ga_in (List.mem_of_getElem? (i := 579) (by decide +kernel)) rfl⟩
theorem pX0_21 : ga_FP RX0 21 0 2 .int true := ⟨_, rfl, by decide, ga_in (List.mem_of_getElem? (i := 579) (by decide +kernel)) rfl, rfl, by decide +kernel, fun h => by first | rfl | cases h⟩
theorem fX8_99 : ga_F RX8 99 0 2 := ⟨_, rfl, by decide, ga_in (List.mem_of_getElem? (i := 580) (by decide +kernel)) rfl⟩
theorem fX0_24 : ga_F RX0 24 0 3 := ⟨_, rfl, by decide, ga_in (List.mem_of_getElem? (i := 581) (by decide +kernel)) rfl⟩
theorem pX0_24 : ga_FP RX0 24 0 3 .int true := ⟨_, rfl, by decide, ga_in (List.mem_of_getElem? (i := 581) (by decide +kernel)) rfl, rfl, by decide +kernel, fun h => by first | rfl | cases h⟩
theorem fX8_76 : ga_F RX8 76 0 3 := ⟨_, rfl, by decide, ga_in (List.mem_of_getElem? (i := 582) (by decide +kernel)) rfl⟩
theorem fX0_27 : ga_F RX0 27 0 4 := ⟨_, rfl, by decide, ga_in (List.mem_of_getElem? (i := 583) (by decide +kernel)) rfl⟩
theorem pX0_27 : ga_FP RX0 27 0 4 .int true := ⟨_, rfl, by decide, ga_in (List.mem_of_getElem? (i := 583) (by decide +kernel)) rfl, rfl, by decide +kernel, fun h => by first | rfl | cases h⟩
theorem fX8_96 : ga_F RX8 96 0 4 := ⟨_, rfl, by decide, ga_in (List.mem_of_getElem? (i := 584) (by decide +kernel)) rfl⟩
theorem fX0_30 : ga_F RX0 30 0 5 := ⟨_, rfl, by decide, ga_in (List.mem_of_getElem? (i := 585) (by decide +kernel)) rfl⟩
theorem pX0_30 : ga_FP RX0 30 0 5 .int false := ⟨_, rfl, by decide, ga_in (List.mem_of_getElem? (i := 585) (by decide +kernel)) rfl, rfl, by decide +kernel, fun h => by first | rfl | cases h⟩
theorem fX3_57 : ga_F RX3 57 0 5 := ⟨_, rfl, by decide, ga_in (List.mem_of_getElem? (i := 586) (by decide +kernel)) rfl⟩
theorem pX3_57 : ga_FP RX3 57 0 5 .int false := ⟨_, rfl, by decide, ga_in (List.mem_of_getElem? (i := 586) (by decide +kernel)) rfl, rfl, by decide +kernel, fun h => by first | rfl | cases h⟩
theorem fX0_9 : ga_F RX0 9 0 6 := ⟨_, rfl, by decide, ga_in (List.mem_of_getElem? (i := 587) (by decide +kernel)) rfl⟩
theorem pX0_9 : ga_FP RX0 9 0 6 .int false := ⟨_, rfl, by decide, ga_in (List.mem_of_getElem? (i := 587) (by decide +kernel)) rfl, rfl, by decide +kernel, fun h => by first | rfl | cases h⟩
theorem fX3_51 : ga_F RX3 51 0 6 := ⟨_, rfl, by decide, ga_in (List.mem_of_getElem? (i := 588) (by decide +kernel)) rfl⟩
theorem pX3_51 : ga_FP RX3 51 0 6 .int false := ⟨_, rfl, by decide, ga_in (List.mem_of_getElem? (i := 588) (by decide +kernel)) rfl, rfl, by decide +kernel, fun h => by first | rfl | cases h⟩
theorem fX8_50 : ga_F RX8 50 0 7 := ⟨_, rfl, by decide, ga_in (List.mem_of_getElem? (i := 589) (by decide +kernel)) rfl⟩
theorem pX8_50 : ga_FP RX8 50 0 7 (.object "ThreeDays$Act") false := ⟨_, rfl, by decide, ga_in (List.mem_of_getElem? (i := 589) (by decide +kernel)) rfl, rfl, by decide +kernel, fun h => by first | rfl | cases h⟩
theorem fX3_40 : ga_F RX3 40 0 7 := ⟨_, rfl, by decide, ga_in (List.mem_of_getElem? (i := 590) (by decide +kernel)) rfl⟩
theorem pX3_40 : ga_FP RX3 40 0 7 (.object "ThreeDays$Act") false := ⟨_, rfl, by decide, ga_in (List.mem_of_getElem? (i := 590) (by decide +kernel)) rfl, rfl, by decide +kernel, fun h => by first | rfl | cases h⟩
theorem mX3_36 : Cond.methodLink RX3 36 yX3_write ∈ ga_T := ga_in (List.mem_of_getElem? (i := 608) (by decide +kernel)) rfl
theorem yX3_write_ok : ga_Yv yX3_write cX3_write 2 none 1 := ⟨⟨ga_in (List.mem_of_getElem? (i := 79) (by decide +kernel)) rfl, ga_in (List.mem_of_getElem? (i := 611) (by decide +kernel)) rfl, by decide +kernel, by decide⟩, ga_in (List.mem_of_getElem? (i := 610) (by decide +kernel)) rfl, ga_in (List.mem_of_getElem? (i := 3) (by decide +kernel)) rfl⟩
theorem mL_50 : Cond.methodLink RL 50 yX10_strike ∈ ga_T := ga_in (List.mem_of_getElem? (i := 612) (by decide +kernel)) rfl
theorem yX10_strike_ok : ga_Yv yX10_strike cX10_strike 2 (some .int) 1 := ⟨⟨ga_in (List.mem_of_getElem? (i := 75) (by decide +kernel)) rfl, ga_in (List.mem_of_getElem? (i := 615) (by decide +kernel)) rfl, by decide +kernel, by decide⟩, ga_in (List.mem_of_getElem? (i := 613) (by decide +kernel)) rfl, ga_in (List.mem_of_getElem? (i := 614) (by decide +kernel)) rfl⟩
theorem mX10_116 : Cond.methodLink RX10 116 yX3_addStrike ∈ ga_T := ga_in (List.mem_of_getElem? (i := 616) (by decide +kernel)) rfl
theorem yX3_addStrike_ok : ga_Yv yX3_addStrike cX3_addStrike 3 (some .int) 1 := ⟨⟨ga_in (List.mem_of_getElem? (i := 79) (by decide +kernel)) rfl, ga_in (List.mem_of_getElem? (i := 619) (by decide +kernel)) rfl, by decide +kernel, by decide⟩, ga_in (List.mem_of_getElem? (i := 617) (by decide +kernel)) rfl, ga_in (List.mem_of_getElem? (i := 618) (by decide +kernel)) rfl⟩
theorem mX3_44 : Cond.methodLink RX3 44 yX3_actAt ∈ ga_T := ga_in (List.mem_of_getElem? (i := 620) (by decide +kernel)) rfl
theorem yX3_actAt_ok : ga_Yv yX3_actAt cX3_actAt 2 (some (.object "ThreeDays$Act")) 1 := ⟨⟨ga_in (List.mem_of_getElem? (i := 79) (by decide +kernel)) rfl, ga_in (List.mem_of_getElem? (i := 623) (by decide +kernel)) rfl, by decide +kernel, by decide⟩, ga_in (List.mem_of_getElem? (i := 622) (by decide +kernel)) rfl, ga_in (List.mem_of_getElem? (i := 4) (by decide +kernel)) rfl⟩
theorem mL_54 : Cond.methodLink RL 54 yX10_as ∈ ga_T := ga_in (List.mem_of_getElem? (i := 624) (by decide +kernel)) rfl
theorem yX10_as_ok : ga_Yv yX10_as cX10_as 2 (some .boolean) 1 := ⟨⟨ga_in (List.mem_of_getElem? (i := 75) (by decide +kernel)) rfl, ga_in (List.mem_of_getElem? (i := 627) (by decide +kernel)) rfl, by decide +kernel, by decide⟩, ga_in (List.mem_of_getElem? (i := 625) (by decide +kernel)) rfl, ga_in (List.mem_of_getElem? (i := 626) (by decide +kernel)) rfl⟩
theorem mL_58 : Cond.methodLink RL 58 yX10_rules ∈ ga_T := ga_in (List.mem_of_getElem? (i := 628) (by decide +kernel)) rfl
theorem yX10_rules_ok : ga_Yv yX10_rules cX10_rules 3 (some .int) 0 := ⟨⟨ga_in (List.mem_of_getElem? (i := 75) (by decide +kernel)) rfl, ga_in (List.mem_of_getElem? (i := 631) (by decide +kernel)) rfl, by decide +kernel, by decide⟩, ga_in (List.mem_of_getElem? (i := 629) (by decide +kernel)) rfl, ga_in (List.mem_of_getElem? (i := 630) (by decide +kernel)) rfl⟩
theorem mX10_126 : Cond.methodLink RX10 126 yX4_read ∈ ga_T := ga_in (List.mem_of_getElem? (i := 632) (by decide +kernel)) rfl
theorem yX4_read_ok : ga_Yv yX4_read cX4_read 3 (some .boolean) 1 := ⟨⟨ga_in (List.mem_of_getElem? (i := 80) (by decide +kernel)) rfl, ga_in (List.mem_of_getElem? (i := 635) (by decide +kernel)) rfl, by decide +kernel, by decide⟩, ga_in (List.mem_of_getElem? (i := 633) (by decide +kernel)) rfl, ga_in (List.mem_of_getElem? (i := 634) (by decide +kernel)) rfl⟩
theorem mX4_80 : Cond.methodLink RX4 80 yX6_clear ∈ ga_T := ga_in (List.mem_of_getElem? (i := 636) (by decide +kernel)) rfl
theorem yX6_clear_ok : ga_Yv yX6_clear cX6_clear 1 none 0 := ⟨⟨ga_in (List.mem_of_getElem? (i := 85) (by decide +kernel)) rfl, ga_in (List.mem_of_getElem? (i := 639) (by decide +kernel)) rfl, by decide +kernel, by decide⟩, ga_in (List.mem_of_getElem? (i := 637) (by decide +kernel)) rfl, ga_in (List.mem_of_getElem? (i := 638) (by decide +kernel)) rfl⟩
theorem mX4_91 : Cond.methodLink RX4 91 yX4_advance ∈ ga_T := ga_in (List.mem_of_getElem? (i := 640) (by decide +kernel)) rfl
theorem yX4_advance_ok : ga_Yv yX4_advance cX4_advance 3 none 0 := ⟨⟨ga_in (List.mem_of_getElem? (i := 80) (by decide +kernel)) rfl, ga_in (List.mem_of_getElem? (i := 643) (by decide +kernel)) rfl, by decide +kernel, by decide⟩, ga_in (List.mem_of_getElem? (i := 642) (by decide +kernel)) rfl, ga_in (List.mem_of_getElem? (i := 5) (by decide +kernel)) rfl⟩
theorem kX4_174 : Cond.constantLong RX4 174 (10) ∈ ga_T := ga_in (List.mem_of_getElem? (i := 644) (by decide +kernel)) rfl
theorem mX4_100 : Cond.methodLink RX4 100 yX4_fail ∈ ga_T := ga_in (List.mem_of_getElem? (i := 645) (by decide +kernel)) rfl
theorem yX4_fail_ok : ga_Yv yX4_fail cX4_fail 3 none 2 := ⟨⟨ga_in (List.mem_of_getElem? (i := 80) (by decide +kernel)) rfl, ga_in (List.mem_of_getElem? (i := 648) (by decide +kernel)) rfl, by decide +kernel, by decide⟩, ga_in (List.mem_of_getElem? (i := 647) (by decide +kernel)) rfl, ga_in (List.mem_of_getElem? (i := 6) (by decide +kernel)) rfl⟩
theorem mX4_107 : Cond.methodLink RX4 107 yX4_readOutIf ∈ ga_T := ga_in (List.mem_of_getElem? (i := 649) (by decide +kernel)) rfl
theorem yX4_readOutIf_ok : ga_Yv yX4_readOutIf cX4_readOutIf 2 none 0 := ⟨⟨ga_in (List.mem_of_getElem? (i := 80) (by decide +kernel)) rfl, ga_in (List.mem_of_getElem? (i := 652) (by decide +kernel)) rfl, by decide +kernel, by decide⟩, ga_in (List.mem_of_getElem? (i := 651) (by decide +kernel)) rfl, ga_in (List.mem_of_getElem? (i := 7) (by decide +kernel)) rfl⟩
theorem mX4_128 : Cond.methodLink RX4 128 yX4_readSum ∈ ga_T := ga_in (List.mem_of_getElem? (i := 653) (by decide +kernel)) rfl
theorem yX4_readSum_ok : ga_Yv yX4_readSum cX4_readSum 4 none 1 := ⟨⟨ga_in (List.mem_of_getElem? (i := 80) (by decide +kernel)) rfl, ga_in (List.mem_of_getElem? (i := 656) (by decide +kernel)) rfl, by decide +kernel, by decide⟩, ga_in (List.mem_of_getElem? (i := 655) (by decide +kernel)) rfl, ga_in (List.mem_of_getElem? (i := 8) (by decide +kernel)) rfl⟩
theorem mX4_147 : Cond.methodLink RX4 147 yX4_readProduct ∈ ga_T := ga_in (List.mem_of_getElem? (i := 657) (by decide +kernel)) rfl
theorem yX4_readProduct_ok : ga_Yv yX4_readProduct cX4_readProduct 4 none 1 := ⟨⟨ga_in (List.mem_of_getElem? (i := 80) (by decide +kernel)) rfl, ga_in (List.mem_of_getElem? (i := 660) (by decide +kernel)) rfl, by decide +kernel, by decide⟩, ga_in (List.mem_of_getElem? (i := 659) (by decide +kernel)) rfl, ga_in (List.mem_of_getElem? (i := 9) (by decide +kernel)) rfl⟩
theorem mX4_150 : Cond.methodLink RX4 150 yX4_readFactor ∈ ga_T := ga_in (List.mem_of_getElem? (i := 661) (by decide +kernel)) rfl
theorem yX4_readFactor_ok : ga_Yv yX4_readFactor cX4_readFactor 3 none 1 := ⟨⟨ga_in (List.mem_of_getElem? (i := 80) (by decide +kernel)) rfl, ga_in (List.mem_of_getElem? (i := 664) (by decide +kernel)) rfl, by decide +kernel, by decide⟩, ga_in (List.mem_of_getElem? (i := 663) (by decide +kernel)) rfl, ga_in (List.mem_of_getElem? (i := 10) (by decide +kernel)) rfl⟩
theorem mX4_156 : Cond.methodLink RX4 156 yX4_pairStep ∈ ga_T := ga_in (List.mem_of_getElem? (i := 665) (by decide +kernel)) rfl
theorem yX4_pairStep_ok : ga_Yv yX4_pairStep cX4_pairStep 1 (some .int) 0 := ⟨⟨ga_in (List.mem_of_getElem? (i := 80) (by decide +kernel)) rfl, ga_in (List.mem_of_getElem? (i := 668) (by decide +kernel)) rfl, by decide +kernel, by decide⟩, ga_in (List.mem_of_getElem? (i := 667) (by decide +kernel)) rfl, ga_in (List.mem_of_getElem? (i := 11) (by decide +kernel)) rfl⟩
theorem mX4_159 : Cond.methodLink RX4 159 yX4_takeNumber ∈ ga_T := ga_in (List.mem_of_getElem? (i := 669) (by decide +kernel)) rfl
theorem yX4_takeNumber_ok : ga_Yv yX4_takeNumber cX4_takeNumber 2 (some .int) 0 := ⟨⟨ga_in (List.mem_of_getElem? (i := 80) (by decide +kernel)) rfl, ga_in (List.mem_of_getElem? (i := 672) (by decide +kernel)) rfl, by decide +kernel, by decide⟩, ga_in (List.mem_of_getElem? (i := 671) (by decide +kernel)) rfl, ga_in (List.mem_of_getElem? (i := 12) (by decide +kernel)) rfl⟩
theorem mX4_137 : Cond.methodLink RX4 137 yX6_addStep ∈ ga_T := ga_in (List.mem_of_getElem? (i := 673) (by decide +kernel)) rfl
theorem yX6_addStep_ok : ga_Yv yX6_addStep cX6_addStep 3 none 2 := ⟨⟨ga_in (List.mem_of_getElem? (i := 85) (by decide +kernel)) rfl, ga_in (List.mem_of_getElem? (i := 676) (by decide +kernel)) rfl, by decide +kernel, by decide⟩, ga_in (List.mem_of_getElem? (i := 674) (by decide +kernel)) rfl, ga_in (List.mem_of_getElem? (i := 675) (by decide +kernel)) rfl⟩
theorem mX4_140 : Cond.methodLink RX4 140 yX4_takeName ∈ ga_T := ga_in (List.mem_of_getElem? (i := 677) (by decide +kernel)) rfl
theorem yX4_takeName_ok : ga_Yv yX4_takeName cX4_takeName 3 (some .int) 1 := ⟨⟨ga_in (List.mem_of_getElem? (i := 80) (by decide +kernel)) rfl, ga_in (List.mem_of_getElem? (i := 680) (by decide +kernel)) rfl, by decide +kernel, by decide⟩, ga_in (List.mem_of_getElem? (i := 679) (by decide +kernel)) rfl, ga_in (List.mem_of_getElem? (i := 13) (by decide +kernel)) rfl⟩
theorem mX4_162 : Cond.methodLink RX4 162 yX4_slotOf ∈ ga_T := ga_in (List.mem_of_getElem? (i := 681) (by decide +kernel)) rfl
theorem yX4_slotOf_ok : ga_Yv yX4_slotOf cX4_slotOf 4 (some .int) 1 := ⟨⟨ga_in (List.mem_of_getElem? (i := 80) (by decide +kernel)) rfl, ga_in (List.mem_of_getElem? (i := 684) (by decide +kernel)) rfl, by decide +kernel, by decide⟩, ga_in (List.mem_of_getElem? (i := 683) (by decide +kernel)) rfl, ga_in (List.mem_of_getElem? (i := 14) (by decide +kernel)) rfl⟩
theorem mX4_166 : Cond.methodLink RX4 166 yX4_isKept ∈ ga_T := ga_in (List.mem_of_getElem? (i := 685) (by decide +kernel)) rfl
theorem yX4_isKept_ok : ga_Yv yX4_isKept cX4_isKept 3 (some .boolean) 1 := ⟨⟨ga_in (List.mem_of_getElem? (i := 80) (by decide +kernel)) rfl, ga_in (List.mem_of_getElem? (i := 688) (by decide +kernel)) rfl, by decide +kernel, by decide⟩, ga_in (List.mem_of_getElem? (i := 687) (by decide +kernel)) rfl, ga_in (List.mem_of_getElem? (i := 15) (by decide +kernel)) rfl⟩
theorem mX4_117 : Cond.methodLink RX4 117 yX4_expect ∈ ga_T := ga_in (List.mem_of_getElem? (i := 689) (by decide +kernel)) rfl
theorem yX4_expect_ok : ga_Yv yX4_expect cX4_expect 2 none 1 := ⟨⟨ga_in (List.mem_of_getElem? (i := 80) (by decide +kernel)) rfl, ga_in (List.mem_of_getElem? (i := 692) (by decide +kernel)) rfl, by decide +kernel, by decide⟩, ga_in (List.mem_of_getElem? (i := 691) (by decide +kernel)) rfl, ga_in (List.mem_of_getElem? (i := 16) (by decide +kernel)) rfl⟩
theorem mX4_153 : Cond.methodLink RX4 153 yX4_readDivisor ∈ ga_T := ga_in (List.mem_of_getElem? (i := 693) (by decide +kernel)) rfl
theorem yX4_readDivisor_ok : ga_Yv yX4_readDivisor cX4_readDivisor 3 none 0 := ⟨⟨ga_in (List.mem_of_getElem? (i := 80) (by decide +kernel)) rfl, ga_in (List.mem_of_getElem? (i := 696) (by decide +kernel)) rfl, by decide +kernel, by decide⟩, ga_in (List.mem_of_getElem? (i := 695) (by decide +kernel)) rfl, ga_in (List.mem_of_getElem? (i := 17) (by decide +kernel)) rfl⟩
theorem mX4_134 : Cond.methodLink RX4 134 yX4_comparison ∈ ga_T := ga_in (List.mem_of_getElem? (i := 697) (by decide +kernel)) rfl
theorem yX4_comparison_ok : ga_Yv yX4_comparison cX4_comparison 1 (some .int) 0 := ⟨⟨ga_in (List.mem_of_getElem? (i := 80) (by decide +kernel)) rfl, ga_in (List.mem_of_getElem? (i := 700) (by decide +kernel)) rfl, by decide +kernel, by decide⟩, ga_in (List.mem_of_getElem? (i := 699) (by decide +kernel)) rfl, ga_in (List.mem_of_getElem? (i := 18) (by decide +kernel)) rfl⟩
theorem mX4_131 : Cond.methodLink RX4 131 yX6_closeStatement ∈ ga_T := ga_in (List.mem_of_getElem? (i := 701) (by decide +kernel)) rfl
theorem yX6_closeStatement_ok : ga_Yv yX6_closeStatement cX6_closeStatement 2 none 1 := ⟨⟨ga_in (List.mem_of_getElem? (i := 85) (by decide +kernel)) rfl, ga_in (List.mem_of_getElem? (i := 704) (by decide +kernel)) rfl, by decide +kernel, by decide⟩, ga_in (List.mem_of_getElem? (i := 702) (by decide +kernel)) rfl, ga_in (List.mem_of_getElem? (i := 703) (by decide +kernel)) rfl⟩
theorem mX4_110 : Cond.methodLink RX4 110 yX4_readTie ∈ ga_T := ga_in (List.mem_of_getElem? (i := 705) (by decide +kernel)) rfl
theorem yX4_readTie_ok : ga_Yv yX4_readTie cX4_readTie 1 none 0 := ⟨⟨ga_in (List.mem_of_getElem? (i := 80) (by decide +kernel)) rfl, ga_in (List.mem_of_getElem? (i := 708) (by decide +kernel)) rfl, by decide +kernel, by decide⟩, ga_in (List.mem_of_getElem? (i := 707) (by decide +kernel)) rfl, ga_in (List.mem_of_getElem? (i := 19) (by decide +kernel)) rfl⟩
theorem mX4_113 : Cond.methodLink RX4 113 yX4_readGiving ∈ ga_T := ga_in (List.mem_of_getElem? (i := 709) (by decide +kernel)) rfl
theorem yX4_readGiving_ok : ga_Yv yX4_readGiving cX4_readGiving 4 none 1 := ⟨⟨ga_in (List.mem_of_getElem? (i := 80) (by decide +kernel)) rfl, ga_in (List.mem_of_getElem? (i := 712) (by decide +kernel)) rfl, by decide +kernel, by decide⟩, ga_in (List.mem_of_getElem? (i := 711) (by decide +kernel)) rfl, ga_in (List.mem_of_getElem? (i := 20) (by decide +kernel)) rfl⟩
theorem mX4_144 : Cond.methodLink RX4 144 yX6_setTotal ∈ ga_T := ga_in (List.mem_of_getElem? (i := 713) (by decide +kernel)) rfl
theorem yX6_setTotal_ok : ga_Yv yX6_setTotal cX6_setTotal 2 none 1 := ⟨⟨ga_in (List.mem_of_getElem? (i := 85) (by decide +kernel)) rfl, ga_in (List.mem_of_getElem? (i := 716) (by decide +kernel)) rfl, by decide +kernel, by decide⟩, ga_in (List.mem_of_getElem? (i := 714) (by decide +kernel)) rfl, ga_in (List.mem_of_getElem? (i := 715) (by decide +kernel)) rfl⟩
theorem mX4_120 : Cond.methodLink RX4 120 yX6_hasTotal ∈ ga_T := ga_in (List.mem_of_getElem? (i := 717) (by decide +kernel)) rfl
theorem yX6_hasTotal_ok : ga_Yv yX6_hasTotal cX6_hasTotal 1 (some .boolean) 0 := ⟨⟨ga_in (List.mem_of_getElem? (i := 85) (by decide +kernel)) rfl, ga_in (List.mem_of_getElem? (i := 720) (by decide +kernel)) rfl, by decide +kernel, by decide⟩, ga_in (List.mem_of_getElem? (i := 718) (by decide +kernel)) rfl, ga_in (List.mem_of_getElem? (i := 719) (by decide +kernel)) rfl⟩
theorem mX10_130 : Cond.methodLink RX10 130 yX1_follow ∈ ga_T := ga_in (List.mem_of_getElem? (i := 721) (by decide +kernel)) rfl
theorem yX1_follow_ok : ga_Yv yX1_follow cX1_follow 2 none 1 := ⟨⟨ga_in (List.mem_of_getElem? (i := 86) (by decide +kernel)) rfl, ga_in (List.mem_of_getElem? (i := 724) (by decide +kernel)) rfl, by decide +kernel, by decide⟩, ga_in (List.mem_of_getElem? (i := 722) (by decide +kernel)) rfl, ga_in (List.mem_of_getElem? (i := 723) (by decide +kernel)) rfl⟩
theorem mX1_45 : Cond.methodLink RX1 45 yX1_forget ∈ ga_T := ga_in (List.mem_of_getElem? (i := 725) (by decide +kernel)) rfl
theorem mL_63 : Cond.methodLink RL 63 yX10_fault ∈ ga_T := ga_in (List.mem_of_getElem? (i := 726) (by decide +kernel)) rfl
theorem yX10_fault_ok : ga_Yv yX10_fault cX10_fault 2 (some .int) 1 := ⟨⟨ga_in (List.mem_of_getElem? (i := 75) (by decide +kernel)) rfl, ga_in (List.mem_of_getElem? (i := 729) (by decide +kernel)) rfl, by decide +kernel, by decide⟩, ga_in (List.mem_of_getElem? (i := 727) (by decide +kernel)) rfl, ga_in (List.mem_of_getElem? (i := 728) (by decide +kernel)) rfl⟩
theorem mL_67 : Cond.methodLink RL 67 yX10_count ∈ ga_T := ga_in (List.mem_of_getElem? (i := 730) (by decide +kernel)) rfl
theorem yX10_count_ok : ga_Yv yX10_count cX10_count 4 (some .int) 2 := ⟨⟨ga_in (List.mem_of_getElem? (i := 75) (by decide +kernel)) rfl, ga_in (List.mem_of_getElem? (i := 733) (by decide +kernel)) rfl, by decide +kernel, by decide⟩, ga_in (List.mem_of_getElem? (i := 731) (by decide +kernel)) rfl, ga_in (List.mem_of_getElem? (i := 732) (by decide +kernel)) rfl⟩
theorem mX10_143 : Cond.methodLink RX10 143 yX10_toldAct ∈ ga_T := ga_in (List.mem_of_getElem? (i := 734) (by decide +kernel)) rfl
theorem yX10_toldAct_ok : ga_Yv yX10_toldAct cX10_toldAct 1 (some .int) 0 := ⟨⟨ga_in (List.mem_of_getElem? (i := 75) (by decide +kernel)) rfl, ga_in (List.mem_of_getElem? (i := 737) (by decide +kernel)) rfl, by decide +kernel, by decide⟩, ga_in (List.mem_of_getElem? (i := 736) (by decide +kernel)) rfl, ga_in (List.mem_of_getElem? (i := 21) (by decide +kernel)) rfl⟩
theorem mX10_147 : Cond.methodLink RX10 147 yX1_knowAt ∈ ga_T := ga_in (List.mem_of_getElem? (i := 738) (by decide +kernel)) rfl
theorem yX1_knowAt_ok : ga_Yv yX1_knowAt cX1_knowAt 4 none 1 := ⟨⟨ga_in (List.mem_of_getElem? (i := 86) (by decide +kernel)) rfl, ga_in (List.mem_of_getElem? (i := 741) (by decide +kernel)) rfl, by decide +kernel, by decide⟩, ga_in (List.mem_of_getElem? (i := 739) (by decide +kernel)) rfl, ga_in (List.mem_of_getElem? (i := 740) (by decide +kernel)) rfl⟩
theorem mX1_48 : Cond.methodLink RX1 48 yX1_moveTo ∈ ga_T := ga_in (List.mem_of_getElem? (i := 742) (by decide +kernel)) rfl
theorem yX1_moveTo_ok : ga_Yv yX1_moveTo cX1_moveTo 4 none 1 := ⟨⟨ga_in (List.mem_of_getElem? (i := 86) (by decide +kernel)) rfl, ga_in (List.mem_of_getElem? (i := 745) (by decide +kernel)) rfl, by decide +kernel, by decide⟩, ga_in (List.mem_of_getElem? (i := 744) (by decide +kernel)) rfl, ga_in (List.mem_of_getElem? (i := 22) (by decide +kernel)) rfl⟩
theorem mX1_72 : Cond.methodLink RX1 72 yJ9_max_7cf53 ∈ ga_T := ga_in (List.mem_of_getElem? (i := 746) (by decide +kernel)) rfl
theorem yJ9_max_7cf53_ok : ga_Ys yJ9_max_7cf53 cJ9_max_7cf53 2 (some .int) 2 := ⟨⟨ga_in (List.mem_of_getElem? (i := 91) (by decide +kernel)) rfl, ga_in (List.mem_of_getElem? (i := 748) (by decide +kernel)) rfl, by decide +kernel, by decide⟩, ga_in (List.mem_of_getElem? (i := 747) (by decide +kernel)) rfl⟩
theorem mX1_78 : Cond.methodLink RX1 78 yJ9_min_7cf53 ∈ ga_T := ga_in (List.mem_of_getElem? (i := 749) (by decide +kernel)) rfl
theorem yJ9_min_7cf53_ok : ga_Ys yJ9_min_7cf53 cJ9_min_7cf53 2 (some .int) 2 := ⟨⟨ga_in (List.mem_of_getElem? (i := 91) (by decide +kernel)) rfl, ga_in (List.mem_of_getElem? (i := 751) (by decide +kernel)) rfl, by decide +kernel, by decide⟩, ga_in (List.mem_of_getElem? (i := 750) (by decide +kernel)) rfl⟩
theorem mX1_81 : Cond.methodLink RX1 81 yX3_riderOf ∈ ga_T := ga_in (List.mem_of_getElem? (i := 752) (by decide +kernel)) rfl
theorem yX3_riderOf_ok : ga_Yv yX3_riderOf cX3_riderOf 3 (some .int) 1 := ⟨⟨ga_in (List.mem_of_getElem? (i := 79) (by decide +kernel)) rfl, ga_in (List.mem_of_getElem? (i := 755) (by decide +kernel)) rfl, by decide +kernel, by decide⟩, ga_in (List.mem_of_getElem? (i := 753) (by decide +kernel)) rfl, ga_in (List.mem_of_getElem? (i := 754) (by decide +kernel)) rfl⟩
theorem mX1_59 : Cond.methodLink RX1 59 yX8_fill ∈ ga_T := ga_in (List.mem_of_getElem? (i := 756) (by decide +kernel)) rfl
theorem yX8_fill_ok : ga_Yv yX8_fill cX8_fill 5 none 3 := ⟨⟨ga_in (List.mem_of_getElem? (i := 87) (by decide +kernel)) rfl, ga_in (List.mem_of_getElem? (i := 759) (by decide +kernel)) rfl, by decide +kernel, by decide⟩, ga_in (List.mem_of_getElem? (i := 757) (by decide +kernel)) rfl, ga_in (List.mem_of_getElem? (i := 758) (by decide +kernel)) rfl⟩
theorem mX8_25 : Cond.methodLink RX8 25 yX7_clear ∈ ga_T := ga_in (List.mem_of_getElem? (i := 760) (by decide +kernel)) rfl
theorem yX7_clear_ok : ga_Yv yX7_clear cX7_clear 2 none 0 := ⟨⟨ga_in (List.mem_of_getElem? (i := 88) (by decide +kernel)) rfl, ga_in (List.mem_of_getElem? (i := 763) (by decide +kernel)) rfl, by decide +kernel, by decide⟩, ga_in (List.mem_of_getElem? (i := 761) (by decide +kernel)) rfl, ga_in (List.mem_of_getElem? (i := 762) (by decide +kernel)) rfl⟩
theorem kX7_27 : Cond.constant RX7 27 (-1000000) ∈ ga_T := ga_in (List.mem_of_getElem? (i := 764) (by decide +kernel)) rfl
theorem mX8_34 : Cond.methodLink RX8 34 yX3_oldestOf ∈ ga_T := ga_in (List.mem_of_getElem? (i := 765) (by decide +kernel)) rfl
theorem yX3_oldestOf_ok : ga_Yv yX3_oldestOf cX3_oldestOf 2 (some (.object "ThreeDays$Act")) 1 := ⟨⟨ga_in (List.mem_of_getElem? (i := 79) (by decide +kernel)) rfl, ga_in (List.mem_of_getElem? (i := 768) (by decide +kernel)) rfl, by decide +kernel, by decide⟩, ga_in (List.mem_of_getElem? (i := 766) (by decide +kernel)) rfl, ga_in (List.mem_of_getElem? (i := 767) (by decide +kernel)) rfl⟩
theorem mX8_40 : Cond.methodLink RX8 40 yX0_isKnownAt ∈ ga_T := ga_in (List.mem_of_getElem? (i := 769) (by decide +kernel)) rfl
theorem yX0_isKnownAt_ok : ga_Yv yX0_isKnownAt cX0_isKnownAt 2 (some .boolean) 1 := ⟨⟨ga_in (List.mem_of_getElem? (i := 90) (by decide +kernel)) rfl, ga_in (List.mem_of_getElem? (i := 772) (by decide +kernel)) rfl, by decide +kernel, by decide⟩, ga_in (List.mem_of_getElem? (i := 770) (by decide +kernel)) rfl, ga_in (List.mem_of_getElem? (i := 771) (by decide +kernel)) rfl⟩
theorem mX8_46 : Cond.methodLink RX8 46 yX8_take ∈ ga_T := ga_in (List.mem_of_getElem? (i := 773) (by decide +kernel)) rfl
theorem yX8_take_ok : ga_Yv yX8_take cX8_take 3 none 2 := ⟨⟨ga_in (List.mem_of_getElem? (i := 87) (by decide +kernel)) rfl, ga_in (List.mem_of_getElem? (i := 776) (by decide +kernel)) rfl, by decide +kernel, by decide⟩, ga_in (List.mem_of_getElem? (i := 775) (by decide +kernel)) rfl, ga_in (List.mem_of_getElem? (i := 23) (by decide +kernel)) rfl⟩
theorem mX8_83 : Cond.methodLink RX8 83 yX2_putRight ∈ ga_T := ga_in (List.mem_of_getElem? (i := 777) (by decide +kernel)) rfl
theorem yX2_putRight_ok : ga_Yv yX2_putRight cX2_putRight 3 (some .int) 2 := ⟨⟨ga_in (List.mem_of_getElem? (i := 78) (by decide +kernel)) rfl, ga_in (List.mem_of_getElem? (i := 780) (by decide +kernel)) rfl, by decide +kernel, by decide⟩, ga_in (List.mem_of_getElem? (i := 778) (by decide +kernel)) rfl, ga_in (List.mem_of_getElem? (i := 779) (by decide +kernel)) rfl⟩
theorem mX8_102 : Cond.methodLink RX8 102 yX8_see ∈ ga_T := ga_in (List.mem_of_getElem? (i := 781) (by decide +kernel)) rfl
theorem yX8_see_ok : ga_Yv yX8_see cX8_see 4 none 2 := ⟨⟨ga_in (List.mem_of_getElem? (i := 87) (by decide +kernel)) rfl, ga_in (List.mem_of_getElem? (i := 784) (by decide +kernel)) rfl, by decide +kernel, by decide⟩, ga_in (List.mem_of_getElem? (i := 783) (by decide +kernel)) rfl, ga_in (List.mem_of_getElem? (i := 24) (by decide +kernel)) rfl⟩
theorem mX8_106 : Cond.methodLink RX8 106 yX8_seenAt ∈ ga_T := ga_in (List.mem_of_getElem? (i := 785) (by decide +kernel)) rfl
theorem yX8_seenAt_ok : ga_Ys yX8_seenAt cX8_seenAt 2 (some .int) 2 := ⟨⟨ga_in (List.mem_of_getElem? (i := 87) (by decide +kernel)) rfl, ga_in (List.mem_of_getElem? (i := 787) (by decide +kernel)) rfl, by decide +kernel, by decide⟩, ga_in (List.mem_of_getElem? (i := 786) (by decide +kernel)) rfl⟩
theorem nX8_109 : (RX8, 109, yX10_isWithin, "ThreeDays") ∈ ga_nest := by decide +kernel
theorem mX8_54 : Cond.methodLink RX8 54 yX8_takeTime ∈ ga_T := ga_in (List.mem_of_getElem? (i := 789) (by decide +kernel)) rfl
theorem yX8_takeTime_ok : ga_Yv yX8_takeTime cX8_takeTime 3 none 1 := ⟨⟨ga_in (List.mem_of_getElem? (i := 87) (by decide +kernel)) rfl, ga_in (List.mem_of_getElem? (i := 792) (by decide +kernel)) rfl, by decide +kernel, by decide⟩, ga_in (List.mem_of_getElem? (i := 791) (by decide +kernel)) rfl, ga_in (List.mem_of_getElem? (i := 25) (by decide +kernel)) rfl⟩
theorem mX8_116 : Cond.methodLink RX8 116 yJ9_max_7cf53 ∈ ga_T := ga_in (List.mem_of_getElem? (i := 793) (by decide +kernel)) rfl
theorem mX8_61 : Cond.methodLink RX8 61 yX2_isFenceFor ∈ ga_T := ga_in (List.mem_of_getElem? (i := 794) (by decide +kernel)) rfl
theorem yX2_isFenceFor_ok : ga_Yv yX2_isFenceFor cX2_isFenceFor 3 (some .boolean) 2 := ⟨⟨ga_in (List.mem_of_getElem? (i := 78) (by decide +kernel)) rfl, ga_in (List.mem_of_getElem? (i := 797) (by decide +kernel)) rfl, by decide +kernel, by decide⟩, ga_in (List.mem_of_getElem? (i := 795) (by decide +kernel)) rfl, ga_in (List.mem_of_getElem? (i := 796) (by decide +kernel)) rfl⟩
theorem mX8_69 : Cond.methodLink RX8 69 yX8_takeFence ∈ ga_T := ga_in (List.mem_of_getElem? (i := 798) (by decide +kernel)) rfl
theorem yX8_takeFence_ok : ga_Yv yX8_takeFence cX8_takeFence 7 none 2 := ⟨⟨ga_in (List.mem_of_getElem? (i := 87) (by decide +kernel)) rfl, ga_in (List.mem_of_getElem? (i := 801) (by decide +kernel)) rfl, by decide +kernel, by decide⟩, ga_in (List.mem_of_getElem? (i := 800) (by decide +kernel)) rfl, ga_in (List.mem_of_getElem? (i := 26) (by decide +kernel)) rfl⟩
theorem mX8_124 : Cond.methodLink RX8 124 yX8_timesSeen ∈ ga_T := ga_in (List.mem_of_getElem? (i := 802) (by decide +kernel)) rfl
theorem yX8_timesSeen_ok : ga_Yv yX8_timesSeen cX8_timesSeen 4 (some .int) 2 := ⟨⟨ga_in (List.mem_of_getElem? (i := 87) (by decide +kernel)) rfl, ga_in (List.mem_of_getElem? (i := 805) (by decide +kernel)) rfl, by decide +kernel, by decide⟩, ga_in (List.mem_of_getElem? (i := 804) (by decide +kernel)) rfl, ga_in (List.mem_of_getElem? (i := 27) (by decide +kernel)) rfl⟩
theorem mX1_63 : Cond.methodLink RX1 63 yX6_apply ∈ ga_T := ga_in (List.mem_of_getElem? (i := 806) (by decide +kernel)) rfl
theorem yX6_apply_ok : ga_Yv yX6_apply cX6_apply 6 none 1 := ⟨⟨ga_in (List.mem_of_getElem? (i := 85) (by decide +kernel)) rfl, ga_in (List.mem_of_getElem? (i := 809) (by decide +kernel)) rfl, by decide +kernel, by decide⟩, ga_in (List.mem_of_getElem? (i := 807) (by decide +kernel)) rfl, ga_in (List.mem_of_getElem? (i := 808) (by decide +kernel)) rfl⟩
theorem mX6_46 : Cond.methodLink RX6 46 yX6_run ∈ ga_T := ga_in (List.mem_of_getElem? (i := 810) (by decide +kernel)) rfl
theorem yX6_run_ok : ga_Yv yX6_run cX6_run 5 (some .long) 3 := ⟨⟨ga_in (List.mem_of_getElem? (i := 85) (by decide +kernel)) rfl, ga_in (List.mem_of_getElem? (i := 813) (by decide +kernel)) rfl, by decide +kernel, by decide⟩, ga_in (List.mem_of_getElem? (i := 812) (by decide +kernel)) rfl, ga_in (List.mem_of_getElem? (i := 28) (by decide +kernel)) rfl⟩
theorem mX6_68 : Cond.methodLink RX6 68 yX6_doStep ∈ ga_T := ga_in (List.mem_of_getElem? (i := 814) (by decide +kernel)) rfl
theorem yX6_doStep_ok : ga_Yv yX6_doStep cX6_doStep 8 none 3 := ⟨⟨ga_in (List.mem_of_getElem? (i := 85) (by decide +kernel)) rfl, ga_in (List.mem_of_getElem? (i := 817) (by decide +kernel)) rfl, by decide +kernel, by decide⟩, ga_in (List.mem_of_getElem? (i := 816) (by decide +kernel)) rfl, ga_in (List.mem_of_getElem? (i := 29) (by decide +kernel)) rfl⟩
theorem mX6_76 : Cond.methodLink RX6 76 yX6_push ∈ ga_T := ga_in (List.mem_of_getElem? (i := 818) (by decide +kernel)) rfl
theorem yX6_push_ok : ga_Yv yX6_push cX6_push 3 none 1 := ⟨⟨ga_in (List.mem_of_getElem? (i := 85) (by decide +kernel)) rfl, ga_in (List.mem_of_getElem? (i := 821) (by decide +kernel)) rfl, by decide +kernel, by decide⟩, ga_in (List.mem_of_getElem? (i := 820) (by decide +kernel)) rfl, ga_in (List.mem_of_getElem? (i := 30) (by decide +kernel)) rfl⟩
theorem mX6_53 : Cond.methodLink RX6 53 yX7_valueAt ∈ ga_T := ga_in (List.mem_of_getElem? (i := 822) (by decide +kernel)) rfl
theorem yX7_valueAt_ok : ga_Yv yX7_valueAt cX7_valueAt 2 (some .long) 1 := ⟨⟨ga_in (List.mem_of_getElem? (i := 88) (by decide +kernel)) rfl, ga_in (List.mem_of_getElem? (i := 825) (by decide +kernel)) rfl, by decide +kernel, by decide⟩, ga_in (List.mem_of_getElem? (i := 823) (by decide +kernel)) rfl, ga_in (List.mem_of_getElem? (i := 824) (by decide +kernel)) rfl⟩
theorem nX7_38 : (RX7, 38, yX10_isWithin, "ThreeDays") ∈ ga_nest := by decide +kernel
theorem mX6_72 : Cond.methodLink RX6 72 yX6_pop ∈ ga_T := ga_in (List.mem_of_getElem? (i := 827) (by decide +kernel)) rfl
theorem yX6_pop_ok : ga_Yv yX6_pop cX6_pop 1 (some .long) 0 := ⟨⟨ga_in (List.mem_of_getElem? (i := 85) (by decide +kernel)) rfl, ga_in (List.mem_of_getElem? (i := 830) (by decide +kernel)) rfl, by decide +kernel, by decide⟩, ga_in (List.mem_of_getElem? (i := 829) (by decide +kernel)) rfl, ga_in (List.mem_of_getElem? (i := 31) (by decide +kernel)) rfl⟩
theorem mX6_80 : Cond.methodLink RX6 80 yJ9_floorDiv_f86c9 ∈ ga_T := ga_in (List.mem_of_getElem? (i := 831) (by decide +kernel)) rfl
theorem yJ9_floorDiv_f86c9_ok : ga_Ys yJ9_floorDiv_f86c9 cJ9_floorDiv_f86c9 6 (some .long) 2 := ⟨⟨ga_in (List.mem_of_getElem? (i := 91) (by decide +kernel)) rfl, ga_in (List.mem_of_getElem? (i := 833) (by decide +kernel)) rfl, by decide +kernel, by decide⟩, ga_in (List.mem_of_getElem? (i := 832) (by decide +kernel)) rfl⟩
theorem mX6_86 : Cond.methodLink RX6 86 yX6_join ∈ ga_T := ga_in (List.mem_of_getElem? (i := 834) (by decide +kernel)) rfl
theorem yX6_join_ok : ga_Ys yX6_join cX6_join 5 (some .long) 3 := ⟨⟨ga_in (List.mem_of_getElem? (i := 85) (by decide +kernel)) rfl, ga_in (List.mem_of_getElem? (i := 836) (by decide +kernel)) rfl, by decide +kernel, by decide⟩, ga_in (List.mem_of_getElem? (i := 835) (by decide +kernel)) rfl⟩
theorem mX6_90 : Cond.methodLink RX6 90 yX6_limited ∈ ga_T := ga_in (List.mem_of_getElem? (i := 837) (by decide +kernel)) rfl
theorem yX6_limited_ok : ga_Ys yX6_limited cX6_limited 2 (some .long) 1 := ⟨⟨ga_in (List.mem_of_getElem? (i := 85) (by decide +kernel)) rfl, ga_in (List.mem_of_getElem? (i := 839) (by decide +kernel)) rfl, by decide +kernel, by decide⟩, ga_in (List.mem_of_getElem? (i := 838) (by decide +kernel)) rfl⟩
theorem kX6_103 : Cond.constantLong RX6 103 (-1000000000000) ∈ ga_T := ga_in (List.mem_of_getElem? (i := 840) (by decide +kernel)) rfl
theorem kX6_105 : Cond.constantLong RX6 105 (1000000000000) ∈ ga_T := ga_in (List.mem_of_getElem? (i := 841) (by decide +kernel)) rfl
theorem mX6_100 : Cond.methodLink RX6 100 yJ9_min_f86c9 ∈ ga_T := ga_in (List.mem_of_getElem? (i := 842) (by decide +kernel)) rfl
theorem yJ9_min_f86c9_ok : ga_Ys yJ9_min_f86c9 cJ9_min_f86c9 4 (some .long) 2 := ⟨⟨ga_in (List.mem_of_getElem? (i := 91) (by decide +kernel)) rfl, ga_in (List.mem_of_getElem? (i := 844) (by decide +kernel)) rfl, by decide +kernel, by decide⟩, ga_in (List.mem_of_getElem? (i := 843) (by decide +kernel)) rfl⟩
theorem mX6_97 : Cond.methodLink RX6 97 yJ9_max_f86c9 ∈ ga_T := ga_in (List.mem_of_getElem? (i := 845) (by decide +kernel)) rfl
theorem yJ9_max_f86c9_ok : ga_Ys yJ9_max_f86c9 cJ9_max_f86c9 4 (some .long) 2 := ⟨⟨ga_in (List.mem_of_getElem? (i := 91) (by decide +kernel)) rfl, ga_in (List.mem_of_getElem? (i := 847) (by decide +kernel)) rfl, by decide +kernel, by decide⟩, ga_in (List.mem_of_getElem? (i := 846) (by decide +kernel)) rfl⟩
theorem mX6_94 : Cond.methodLink RX6 94 yX6_product ∈ ga_T := ga_in (List.mem_of_getElem? (i := 848) (by decide +kernel)) rfl
theorem yX6_product_ok : ga_Ys yX6_product cX6_product 4 (some .long) 2 := ⟨⟨ga_in (List.mem_of_getElem? (i := 85) (by decide +kernel)) rfl, ga_in (List.mem_of_getElem? (i := 850) (by decide +kernel)) rfl, by decide +kernel, by decide⟩, ga_in (List.mem_of_getElem? (i := 849) (by decide +kernel)) rfl⟩
theorem mX6_107 : Cond.methodLink RX6 107 yJ9_abs_067f4 ∈ ga_T := ga_in (List.mem_of_getElem? (i := 851) (by decide +kernel)) rfl
theorem yJ9_abs_067f4_ok : ga_Ys yJ9_abs_067f4 cJ9_abs_067f4 2 (some .long) 1 := ⟨⟨ga_in (List.mem_of_getElem? (i := 91) (by decide +kernel)) rfl, ga_in (List.mem_of_getElem? (i := 853) (by decide +kernel)) rfl, by decide +kernel, by decide⟩, ga_in (List.mem_of_getElem? (i := 852) (by decide +kernel)) rfl⟩
theorem mX10_150 : Cond.methodLink RX10 150 yX1_sheetAt ∈ ga_T := ga_in (List.mem_of_getElem? (i := 854) (by decide +kernel)) rfl
theorem yX1_sheetAt_ok : ga_Yv yX1_sheetAt cX1_sheetAt 2 (some (.object "ThreeDays$Sheet")) 1 := ⟨⟨ga_in (List.mem_of_getElem? (i := 86) (by decide +kernel)) rfl, ga_in (List.mem_of_getElem? (i := 857) (by decide +kernel)) rfl, by decide +kernel, by decide⟩, ga_in (List.mem_of_getElem? (i := 855) (by decide +kernel)) rfl, ga_in (List.mem_of_getElem? (i := 856) (by decide +kernel)) rfl⟩
theorem mX1_91 : Cond.methodLink RX1 91 yX5_has ∈ ga_T := ga_in (List.mem_of_getElem? (i := 858) (by decide +kernel)) rfl
theorem kX10_154 : Cond.constant RX10 154 (-2000000) ∈ ga_T := ga_in (List.mem_of_getElem? (i := 859) (by decide +kernel)) rfl
theorem mX10_155 : Cond.methodLink RX10 155 yX7_countOf ∈ ga_T := ga_in (List.mem_of_getElem? (i := 860) (by decide +kernel)) rfl
theorem yX7_countOf_ok : ga_Yv yX7_countOf cX7_countOf 2 (some .int) 1 := ⟨⟨ga_in (List.mem_of_getElem? (i := 88) (by decide +kernel)) rfl, ga_in (List.mem_of_getElem? (i := 863) (by decide +kernel)) rfl, by decide +kernel, by decide⟩, ga_in (List.mem_of_getElem? (i := 861) (by decide +kernel)) rfl, ga_in (List.mem_of_getElem? (i := 862) (by decide +kernel)) rfl⟩
theorem kX7_42 : Cond.constant RX7 42 (-2000000) ∈ ga_T := ga_in (List.mem_of_getElem? (i := 864) (by decide +kernel)) rfl
theorem mL_71 : Cond.methodLink RL 71 yX10_given ∈ ga_T := ga_in (List.mem_of_getElem? (i := 865) (by decide +kernel)) rfl
theorem yX10_given_ok : ga_Yv yX10_given cX10_given 4 (some .long) 2 := ⟨⟨ga_in (List.mem_of_getElem? (i := 75) (by decide +kernel)) rfl, ga_in (List.mem_of_getElem? (i := 868) (by decide +kernel)) rfl, by decide +kernel, by decide⟩, ga_in (List.mem_of_getElem? (i := 866) (by decide +kernel)) rfl, ga_in (List.mem_of_getElem? (i := 867) (by decide +kernel)) rfl⟩
theorem kX10_160 : Cond.constantLong RX10 160 (-2000000000000) ∈ ga_T := ga_in (List.mem_of_getElem? (i := 869) (by decide +kernel)) rfl
theorem mX10_162 : Cond.methodLink RX10 162 yX7_valueAt ∈ ga_T := ga_in (List.mem_of_getElem? (i := 870) (by decide +kernel)) rfl
theorem mL_76 : Cond.methodLink RL 76 yX10_total ∈ ga_T := ga_in (List.mem_of_getElem? (i := 871) (by decide +kernel)) rfl
theorem yX10_total_ok : ga_Yv yX10_total cX10_total 3 (some .long) 1 := ⟨⟨ga_in (List.mem_of_getElem? (i := 75) (by decide +kernel)) rfl, ga_in (List.mem_of_getElem? (i := 874) (by decide +kernel)) rfl, by decide +kernel, by decide⟩, ga_in (List.mem_of_getElem? (i := 872) (by decide +kernel)) rfl, ga_in (List.mem_of_getElem? (i := 873) (by decide +kernel)) rfl⟩
theorem mL_81 : Cond.methodLink RL 81 yX10_isOut ∈ ga_T := ga_in (List.mem_of_getElem? (i := 875) (by decide +kernel)) rfl
theorem yX10_isOut_ok : ga_Yv yX10_isOut cX10_isOut 3 (some .int) 1 := ⟨⟨ga_in (List.mem_of_getElem? (i := 75) (by decide +kernel)) rfl, ga_in (List.mem_of_getElem? (i := 878) (by decide +kernel)) rfl, by decide +kernel, by decide⟩, ga_in (List.mem_of_getElem? (i := 876) (by decide +kernel)) rfl, ga_in (List.mem_of_getElem? (i := 877) (by decide +kernel)) rfl⟩
theorem mL_85 : Cond.methodLink RL 85 yX10_against ∈ ga_T := ga_in (List.mem_of_getElem? (i := 879) (by decide +kernel)) rfl
theorem yX10_against_ok : ga_Yv yX10_against cX10_against 5 (some .int) 2 := ⟨⟨ga_in (List.mem_of_getElem? (i := 75) (by decide +kernel)) rfl, ga_in (List.mem_of_getElem? (i := 882) (by decide +kernel)) rfl, by decide +kernel, by decide⟩, ga_in (List.mem_of_getElem? (i := 880) (by decide +kernel)) rfl, ga_in (List.mem_of_getElem? (i := 881) (by decide +kernel)) rfl⟩
theorem mX10_174 : Cond.methodLink RX10 174 yX6_compare ∈ ga_T := ga_in (List.mem_of_getElem? (i := 883) (by decide +kernel)) rfl
theorem yX6_compare_ok : ga_Yv yX6_compare cX6_compare 5 (some .int) 2 := ⟨⟨ga_in (List.mem_of_getElem? (i := 85) (by decide +kernel)) rfl, ga_in (List.mem_of_getElem? (i := 886) (by decide +kernel)) rfl, by decide +kernel, by decide⟩, ga_in (List.mem_of_getElem? (i := 884) (by decide +kernel)) rfl, ga_in (List.mem_of_getElem? (i := 885) (by decide +kernel)) rfl⟩
theorem mX6_61 : Cond.methodLink RX6 61 yX6_orderOf ∈ ga_T := ga_in (List.mem_of_getElem? (i := 887) (by decide +kernel)) rfl
theorem yX6_orderOf_ok : ga_Ys yX6_orderOf cX6_orderOf 4 (some .int) 2 := ⟨⟨ga_in (List.mem_of_getElem? (i := 85) (by decide +kernel)) rfl, ga_in (List.mem_of_getElem? (i := 889) (by decide +kernel)) rfl, by decide +kernel, by decide⟩, ga_in (List.mem_of_getElem? (i := 888) (by decide +kernel)) rfl⟩
theorem mL_89 : Cond.methodLink RL 89 yX10_place ∈ ga_T := ga_in (List.mem_of_getElem? (i := 890) (by decide +kernel)) rfl
theorem yX10_place_ok : ga_Yv yX10_place cX10_place 2 (some .int) 1 := ⟨⟨ga_in (List.mem_of_getElem? (i := 75) (by decide +kernel)) rfl, ga_in (List.mem_of_getElem? (i := 893) (by decide +kernel)) rfl, by decide +kernel, by decide⟩, ga_in (List.mem_of_getElem? (i := 891) (by decide +kernel)) rfl, ga_in (List.mem_of_getElem? (i := 892) (by decide +kernel)) rfl⟩
theorem mX10_178 : Cond.methodLink RX10 178 yX1_placeOf ∈ ga_T := ga_in (List.mem_of_getElem? (i := 894) (by decide +kernel)) rfl
theorem yX1_placeOf_ok : ga_Yv yX1_placeOf cX1_placeOf 3 (some .int) 1 := ⟨⟨ga_in (List.mem_of_getElem? (i := 86) (by decide +kernel)) rfl, ga_in (List.mem_of_getElem? (i := 897) (by decide +kernel)) rfl, by decide +kernel, by decide⟩, ga_in (List.mem_of_getElem? (i := 895) (by decide +kernel)) rfl, ga_in (List.mem_of_getElem? (i := 896) (by decide +kernel)) rfl⟩
theorem mX1_95 : Cond.methodLink RX1 95 yX1_sheetAt ∈ ga_T := ga_in (List.mem_of_getElem? (i := 898) (by decide +kernel)) rfl
theorem mX1_102 : Cond.methodLink RX1 102 yX1_numberAhead ∈ ga_T := ga_in (List.mem_of_getElem? (i := 899) (by decide +kernel)) rfl
theorem yX1_numberAhead_ok : ga_Yv yX1_numberAhead cX1_numberAhead 4 (some .int) 1 := ⟨⟨ga_in (List.mem_of_getElem? (i := 86) (by decide +kernel)) rfl, ga_in (List.mem_of_getElem? (i := 902) (by decide +kernel)) rfl, by decide +kernel, by decide⟩, ga_in (List.mem_of_getElem? (i := 901) (by decide +kernel)) rfl, ga_in (List.mem_of_getElem? (i := 32) (by decide +kernel)) rfl⟩
theorem mX1_106 : Cond.methodLink RX1 106 yX6_compare ∈ ga_T := ga_in (List.mem_of_getElem? (i := 903) (by decide +kernel)) rfl
theorem mL_93 : Cond.methodLink RL 93 yX10_team ∈ ga_T := ga_in (List.mem_of_getElem? (i := 904) (by decide +kernel)) rfl
theorem yX10_team_ok : ga_Yv yX10_team cX10_team 2 (some .long) 1 := ⟨⟨ga_in (List.mem_of_getElem? (i := 75) (by decide +kernel)) rfl, ga_in (List.mem_of_getElem? (i := 907) (by decide +kernel)) rfl, by decide +kernel, by decide⟩, ga_in (List.mem_of_getElem? (i := 905) (by decide +kernel)) rfl, ga_in (List.mem_of_getElem? (i := 906) (by decide +kernel)) rfl⟩
theorem mX10_181 : Cond.methodLink RX10 181 yX5_sizeOfTeam ∈ ga_T := ga_in (List.mem_of_getElem? (i := 908) (by decide +kernel)) rfl
theorem kX10_184 : Cond.constantLong RX10 184 (-1) ∈ ga_T := ga_in (List.mem_of_getElem? (i := 909) (by decide +kernel)) rfl
theorem mX10_186 : Cond.methodLink RX10 186 yX1_teamSum ∈ ga_T := ga_in (List.mem_of_getElem? (i := 910) (by decide +kernel)) rfl
theorem yX1_teamSum_ok : ga_Yv yX1_teamSum cX1_teamSum 10 (some .long) 1 := ⟨⟨ga_in (List.mem_of_getElem? (i := 86) (by decide +kernel)) rfl, ga_in (List.mem_of_getElem? (i := 913) (by decide +kernel)) rfl, by decide +kernel, by decide⟩, ga_in (List.mem_of_getElem? (i := 911) (by decide +kernel)) rfl, ga_in (List.mem_of_getElem? (i := 912) (by decide +kernel)) rfl⟩
theorem mX1_113 : Cond.methodLink RX1 113 yX1_isPlacedFor ∈ ga_T := ga_in (List.mem_of_getElem? (i := 914) (by decide +kernel)) rfl
theorem yX1_isPlacedFor_ok : ga_Yv yX1_isPlacedFor cX1_isPlacedFor 3 (some .boolean) 2 := ⟨⟨ga_in (List.mem_of_getElem? (i := 86) (by decide +kernel)) rfl, ga_in (List.mem_of_getElem? (i := 917) (by decide +kernel)) rfl, by decide +kernel, by decide⟩, ga_in (List.mem_of_getElem? (i := 916) (by decide +kernel)) rfl, ga_in (List.mem_of_getElem? (i := 33) (by decide +kernel)) rfl⟩
theorem mX1_128 : Cond.methodLink RX1 128 yX5_teamOf ∈ ga_T := ga_in (List.mem_of_getElem? (i := 918) (by decide +kernel)) rfl
theorem yX5_teamOf_ok : ga_Yv yX5_teamOf cX5_teamOf 2 (some .int) 1 := ⟨⟨ga_in (List.mem_of_getElem? (i := 77) (by decide +kernel)) rfl, ga_in (List.mem_of_getElem? (i := 921) (by decide +kernel)) rfl, by decide +kernel, by decide⟩, ga_in (List.mem_of_getElem? (i := 919) (by decide +kernel)) rfl, ga_in (List.mem_of_getElem? (i := 920) (by decide +kernel)) rfl⟩
theorem mX5_30 : Cond.methodLink RX5 30 yX5_has ∈ ga_T := ga_in (List.mem_of_getElem? (i := 922) (by decide +kernel)) rfl
theorem mX1_121 : Cond.methodLink RX1 121 yJ9_max_f86c9 ∈ ga_T := ga_in (List.mem_of_getElem? (i := 923) (by decide +kernel)) rfl
theorem kX1_124 : Cond.constantLong RX1 124 (10000) ∈ ga_T := ga_in (List.mem_of_getElem? (i := 924) (by decide +kernel)) rfl
theorem mL_97 : Cond.methodLink RL 97 yX10_teamPlace ∈ ga_T := ga_in (List.mem_of_getElem? (i := 925) (by decide +kernel)) rfl
theorem yX10_teamPlace_ok : ga_Yv yX10_teamPlace cX10_teamPlace 2 (some .int) 1 := ⟨⟨ga_in (List.mem_of_getElem? (i := 75) (by decide +kernel)) rfl, ga_in (List.mem_of_getElem? (i := 928) (by decide +kernel)) rfl, by decide +kernel, by decide⟩, ga_in (List.mem_of_getElem? (i := 926) (by decide +kernel)) rfl, ga_in (List.mem_of_getElem? (i := 927) (by decide +kernel)) rfl⟩
theorem mX10_189 : Cond.methodLink RX10 189 yX1_placeOfTeam ∈ ga_T := ga_in (List.mem_of_getElem? (i := 929) (by decide +kernel)) rfl
theorem yX1_placeOfTeam_ok : ga_Yv yX1_placeOfTeam cX1_placeOfTeam 11 (some .int) 1 := ⟨⟨ga_in (List.mem_of_getElem? (i := 86) (by decide +kernel)) rfl, ga_in (List.mem_of_getElem? (i := 932) (by decide +kernel)) rfl, by decide +kernel, by decide⟩, ga_in (List.mem_of_getElem? (i := 930) (by decide +kernel)) rfl, ga_in (List.mem_of_getElem? (i := 931) (by decide +kernel)) rfl⟩
theorem mX1_131 : Cond.methodLink RX1 131 yX1_teamSum ∈ ga_T := ga_in (List.mem_of_getElem? (i := 933) (by decide +kernel)) rfl
theorem mX1_135 : Cond.methodLink RX1 135 yX1_leastOfTeam ∈ ga_T := ga_in (List.mem_of_getElem? (i := 934) (by decide +kernel)) rfl
theorem yX1_leastOfTeam_ok : ga_Yv yX1_leastOfTeam cX1_leastOfTeam 8 (some .long) 1 := ⟨⟨ga_in (List.mem_of_getElem? (i := 86) (by decide +kernel)) rfl, ga_in (List.mem_of_getElem? (i := 937) (by decide +kernel)) rfl, by decide +kernel, by decide⟩, ga_in (List.mem_of_getElem? (i := 936) (by decide +kernel)) rfl, ga_in (List.mem_of_getElem? (i := 34) (by decide +kernel)) rfl⟩
theorem mX1_126 : Cond.methodLink RX1 126 yJ9_min_f86c9 ∈ ga_T := ga_in (List.mem_of_getElem? (i := 938) (by decide +kernel)) rfl
theorem mX1_138 : Cond.methodLink RX1 138 yX5_sizeOfTeam ∈ ga_T := ga_in (List.mem_of_getElem? (i := 939) (by decide +kernel)) rfl
theorem mL_101 : Cond.methodLink RL 101 yX10_ring ∈ ga_T := ga_in (List.mem_of_getElem? (i := 940) (by decide +kernel)) rfl
theorem yX10_ring_ok : ga_Yv yX10_ring cX10_ring 2 (some .int) 1 := ⟨⟨ga_in (List.mem_of_getElem? (i := 75) (by decide +kernel)) rfl, ga_in (List.mem_of_getElem? (i := 943) (by decide +kernel)) rfl, by decide +kernel, by decide⟩, ga_in (List.mem_of_getElem? (i := 941) (by decide +kernel)) rfl, ga_in (List.mem_of_getElem? (i := 942) (by decide +kernel)) rfl⟩
theorem mX10_192 : Cond.methodLink RX10 192 yX1_inRing ∈ ga_T := ga_in (List.mem_of_getElem? (i := 944) (by decide +kernel)) rfl
theorem yX1_inRing_ok : ga_Yv yX1_inRing cX1_inRing 3 (some .int) 1 := ⟨⟨ga_in (List.mem_of_getElem? (i := 86) (by decide +kernel)) rfl, ga_in (List.mem_of_getElem? (i := 947) (by decide +kernel)) rfl, by decide +kernel, by decide⟩, ga_in (List.mem_of_getElem? (i := 945) (by decide +kernel)) rfl, ga_in (List.mem_of_getElem? (i := 946) (by decide +kernel)) rfl⟩
theorem mX1_110 : Cond.methodLink RX1 110 yX1_numberEarlier ∈ ga_T := ga_in (List.mem_of_getElem? (i := 948) (by decide +kernel)) rfl
theorem yX1_numberEarlier_ok : ga_Yv yX1_numberEarlier cX1_numberEarlier 5 (some .int) 1 := ⟨⟨ga_in (List.mem_of_getElem? (i := 86) (by decide +kernel)) rfl, ga_in (List.mem_of_getElem? (i := 951) (by decide +kernel)) rfl, by decide +kernel, by decide⟩, ga_in (List.mem_of_getElem? (i := 950) (by decide +kernel)) rfl, ga_in (List.mem_of_getElem? (i := 35) (by decide +kernel)) rfl⟩
theorem mL_105 : Cond.methodLink RL 105 yX10_since ∈ ga_T := ga_in (List.mem_of_getElem? (i := 952) (by decide +kernel)) rfl
theorem yX10_since_ok : ga_Yv yX10_since cX10_since 5 (some .int) 1 := ⟨⟨ga_in (List.mem_of_getElem? (i := 75) (by decide +kernel)) rfl, ga_in (List.mem_of_getElem? (i := 955) (by decide +kernel)) rfl, by decide +kernel, by decide⟩, ga_in (List.mem_of_getElem? (i := 953) (by decide +kernel)) rfl, ga_in (List.mem_of_getElem? (i := 954) (by decide +kernel)) rfl⟩
theorem mL_109 : Cond.methodLink RL 109 yX10_all ∈ ga_T := ga_in (List.mem_of_getElem? (i := 956) (by decide +kernel)) rfl
theorem yX10_all_ok : ga_Yv yX10_all cX10_all 2 (some .int) 1 := ⟨⟨ga_in (List.mem_of_getElem? (i := 75) (by decide +kernel)) rfl, ga_in (List.mem_of_getElem? (i := 959) (by decide +kernel)) rfl, by decide +kernel, by decide⟩, ga_in (List.mem_of_getElem? (i := 957) (by decide +kernel)) rfl, ga_in (List.mem_of_getElem? (i := 958) (by decide +kernel)) rfl⟩
theorem lL_10 : Cond.classLink RL 10 RX11 ∈ ga_T := ga_in (List.mem_of_getElem? (i := 960) (by decide +kernel)) rfl
theorem qX11 : Cond.instantiable RX11 44 ∈ ga_T := ga_in (List.mem_of_getElem? (i := 961) (by decide +kernel)) rfl
theorem mL_12 : Cond.methodLink RL 12 yX11_init ∈ ga_T := ga_in (List.mem_of_getElem? (i := 962) (by decide +kernel)) rfl
theorem yX11_init_ok : ga_Yi yX11_init cX11_init 1 0 := ⟨⟨ga_in (List.mem_of_getElem? (i := 89) (by decide +kernel)) rfl, ga_in (List.mem_of_getElem? (i := 964) (by decide +kernel)) rfl, by decide +kernel, by decide⟩, rfl, ga_in (List.mem_of_getElem? (i := 963) (by decide +kernel)) rfl⟩
theorem mX11_1 : Cond.methodLink RX11 1 Lib.objectInit ∈ ga_T := ga_in (List.mem_of_getElem? (i := 965) (by decide +kernel)) rfl
theorem fX11_7 : ga_F RX11 7 11 0 := ⟨_, rfl, by decide, ga_in (List.mem_of_getElem? (i := 966) (by decide +kernel)) rfl⟩
theorem pX11_7 : ga_FP RX11 7 11 0 (.array .int) true := ⟨_, rfl, by decide, ga_in (List.mem_of_getElem? (i := 966) (by decide +kernel)) rfl, rfl, by decide +kernel, fun h => by first | rfl | cases h⟩
theorem fX11_13 : ga_F RX11 13 11 1 := ⟨_, rfl, by decide, ga_in (List.mem_of_getElem? (i := 967) (by decide +kernel)) rfl⟩
theorem pX11_13 : ga_FP RX11 13 11 1 .int false := ⟨_, rfl, by decide, ga_in (List.mem_of_getElem? (i := 967) (by decide +kernel)) rfl, rfl, by decide +kernel, fun h => by first | rfl | cases h⟩
theorem fX11_17 : ga_F RX11 17 11 2 := ⟨_, rfl, by decide, ga_in (List.mem_of_getElem? (i := 968) (by decide +kernel)) rfl⟩
theorem pX11_17 : ga_FP RX11 17 11 2 .int false := ⟨_, rfl, by decide, ga_in (List.mem_of_getElem? (i := 968) (by decide +kernel)) rfl, rfl, by decide +kernel, fun h => by first | rfl | cases h⟩
theorem fX11_20 : ga_F RX11 20 11 3 := ⟨_, rfl, by decide, ga_in (List.mem_of_getElem? (i := 969) (by decide +kernel)) rfl⟩
theorem pX11_20 : ga_FP RX11 20 11 3 (.array .int) true := ⟨_, rfl, by decide, ga_in (List.mem_of_getElem? (i := 969) (by decide +kernel)) rfl, rfl, by decide +kernel, fun h => by first | rfl | cases h⟩
theorem fX11_23 : ga_F RX11 23 11 4 := ⟨_, rfl, by decide, ga_in (List.mem_of_getElem? (i := 970) (by decide +kernel)) rfl⟩
theorem pX11_23 : ga_FP RX11 23 11 4 .int false := ⟨_, rfl, by decide, ga_in (List.mem_of_getElem? (i := 970) (by decide +kernel)) rfl, rfl, by decide +kernel, fun h => by first | rfl | cases h⟩
theorem fX11_26 : ga_F RX11 26 11 5 := ⟨_, rfl, by decide, ga_in (List.mem_of_getElem? (i := 971) (by decide +kernel)) rfl⟩
theorem pX11_26 : ga_FP RX11 26 11 5 (.array .int) true := ⟨_, rfl, by decide, ga_in (List.mem_of_getElem? (i := 971) (by decide +kernel)) rfl, rfl, by decide +kernel, fun h => by first | rfl | cases h⟩
theorem fX11_29 : ga_F RX11 29 11 6 := ⟨_, rfl, by decide, ga_in (List.mem_of_getElem? (i := 972) (by decide +kernel)) rfl⟩
theorem pX11_29 : ga_FP RX11 29 11 6 (.array .int) true := ⟨_, rfl, by decide, ga_in (List.mem_of_getElem? (i := 972) (by decide +kernel)) rfl, rfl, by decide +kernel, fun h => by first | rfl | cases h⟩
theorem fX11_32 : ga_F RX11 32 11 7 := ⟨_, rfl, by decide, ga_in (List.mem_of_getElem? (i := 973) (by decide +kernel)) rfl⟩
theorem pX11_32 : ga_FP RX11 32 11 7 (.array .int) true := ⟨_, rfl, by decide, ga_in (List.mem_of_getElem? (i := 973) (by decide +kernel)) rfl, rfl, by decide +kernel, fun h => by first | rfl | cases h⟩
theorem fX11_35 : ga_F RX11 35 11 8 := ⟨_, rfl, by decide, ga_in (List.mem_of_getElem? (i := 974) (by decide +kernel)) rfl⟩
theorem pX11_35 : ga_FP RX11 35 11 8 .int false := ⟨_, rfl, by decide, ga_in (List.mem_of_getElem? (i := 974) (by decide +kernel)) rfl, rfl, by decide +kernel, fun h => by first | rfl | cases h⟩
theorem fX11_38 : ga_F RX11 38 11 9 := ⟨_, rfl, by decide, ga_in (List.mem_of_getElem? (i := 975) (by decide +kernel)) rfl⟩
theorem pX11_38 : ga_FP RX11 38 11 9 .int false := ⟨_, rfl, by decide, ga_in (List.mem_of_getElem? (i := 975) (by decide +kernel)) rfl, rfl, by decide +kernel, fun h => by first | rfl | cases h⟩
theorem fX11_41 : ga_F RX11 41 11 10 := ⟨_, rfl, by decide, ga_in (List.mem_of_getElem? (i := 976) (by decide +kernel)) rfl⟩
theorem pX11_41 : ga_FP RX11 41 11 10 .int false := ⟨_, rfl, by decide, ga_in (List.mem_of_getElem? (i := 976) (by decide +kernel)) rfl, rfl, by decide +kernel, fun h => by first | rfl | cases h⟩
theorem fX11_44 : ga_F RX11 44 11 11 := ⟨_, rfl, by decide, ga_in (List.mem_of_getElem? (i := 977) (by decide +kernel)) rfl⟩
theorem pX11_44 : ga_FP RX11 44 11 11 (.array .int) true := ⟨_, rfl, by decide, ga_in (List.mem_of_getElem? (i := 977) (by decide +kernel)) rfl, rfl, by decide +kernel, fun h => by first | rfl | cases h⟩
theorem fX11_47 : ga_F RX11 47 11 12 := ⟨_, rfl, by decide, ga_in (List.mem_of_getElem? (i := 978) (by decide +kernel)) rfl⟩
theorem pX11_47 : ga_FP RX11 47 11 12 (.array .int) true := ⟨_, rfl, by decide, ga_in (List.mem_of_getElem? (i := 978) (by decide +kernel)) rfl, rfl, by decide +kernel, fun h => by first | rfl | cases h⟩
theorem fX11_50 : ga_F RX11 50 11 13 := ⟨_, rfl, by decide, ga_in (List.mem_of_getElem? (i := 979) (by decide +kernel)) rfl⟩
theorem pX11_50 : ga_FP RX11 50 11 13 (.array .int) true := ⟨_, rfl, by decide, ga_in (List.mem_of_getElem? (i := 979) (by decide +kernel)) rfl, rfl, by decide +kernel, fun h => by first | rfl | cases h⟩
theorem fX11_53 : ga_F RX11 53 11 14 := ⟨_, rfl, by decide, ga_in (List.mem_of_getElem? (i := 980) (by decide +kernel)) rfl⟩
theorem pX11_53 : ga_FP RX11 53 11 14 (.array .int) true := ⟨_, rfl, by decide, ga_in (List.mem_of_getElem? (i := 980) (by decide +kernel)) rfl, rfl, by decide +kernel, fun h => by first | rfl | cases h⟩
theorem fX11_56 : ga_F RX11 56 11 15 := ⟨_, rfl, by decide, ga_in (List.mem_of_getElem? (i := 981) (by decide +kernel)) rfl⟩
theorem pX11_56 : ga_FP RX11 56 11 15 (.array .int) true := ⟨_, rfl, by decide, ga_in (List.mem_of_getElem? (i := 981) (by decide +kernel)) rfl, rfl, by decide +kernel, fun h => by first | rfl | cases h⟩
theorem fX11_59 : ga_F RX11 59 11 16 := ⟨_, rfl, by decide, ga_in (List.mem_of_getElem? (i := 982) (by decide +kernel)) rfl⟩
theorem pX11_59 : ga_FP RX11 59 11 16 (.array .int) true := ⟨_, rfl, by decide, ga_in (List.mem_of_getElem? (i := 982) (by decide +kernel)) rfl, rfl, by decide +kernel, fun h => by first | rfl | cases h⟩
theorem fX11_62 : ga_F RX11 62 11 17 := ⟨_, rfl, by decide, ga_in (List.mem_of_getElem? (i := 983) (by decide +kernel)) rfl⟩
theorem pX11_62 : ga_FP RX11 62 11 17 .int false := ⟨_, rfl, by decide, ga_in (List.mem_of_getElem? (i := 983) (by decide +kernel)) rfl, rfl, by decide +kernel, fun h => by first | rfl | cases h⟩
theorem fX11_65 : ga_F RX11 65 11 18 := ⟨_, rfl, by decide, ga_in (List.mem_of_getElem? (i := 984) (by decide +kernel)) rfl⟩
theorem pX11_65 : ga_FP RX11 65 11 18 (.array .int) true := ⟨_, rfl, by decide, ga_in (List.mem_of_getElem? (i := 984) (by decide +kernel)) rfl, rfl, by decide +kernel, fun h => by first | rfl | cases h⟩
theorem fX11_68 : ga_F RX11 68 11 19 := ⟨_, rfl, by decide, ga_in (List.mem_of_getElem? (i := 985) (by decide +kernel)) rfl⟩
theorem pX11_68 : ga_FP RX11 68 11 19 (.array .int) true := ⟨_, rfl, by decide, ga_in (List.mem_of_getElem? (i := 985) (by decide +kernel)) rfl, rfl, by decide +kernel, fun h => by first | rfl | cases h⟩
theorem fX11_71 : ga_F RX11 71 11 20 := ⟨_, rfl, by decide, ga_in (List.mem_of_getElem? (i := 986) (by decide +kernel)) rfl⟩
theorem pX11_71 : ga_FP RX11 71 11 20 .int false := ⟨_, rfl, by decide, ga_in (List.mem_of_getElem? (i := 986) (by decide +kernel)) rfl, rfl, by decide +kernel, fun h => by first | rfl | cases h⟩
theorem fX11_74 : ga_F RX11 74 11 21 := ⟨_, rfl, by decide, ga_in (List.mem_of_getElem? (i := 987) (by decide +kernel)) rfl⟩
theorem pX11_74 : ga_FP RX11 74 11 21 (.array .int) true := ⟨_, rfl, by decide, ga_in (List.mem_of_getElem? (i := 987) (by decide +kernel)) rfl, rfl, by decide +kernel, fun h => by first | rfl | cases h⟩
theorem fX11_77 : ga_F RX11 77 11 22 := ⟨_, rfl, by decide, ga_in (List.mem_of_getElem? (i := 988) (by decide +kernel)) rfl⟩
theorem pX11_77 : ga_FP RX11 77 11 22 (.array .int) true := ⟨_, rfl, by decide, ga_in (List.mem_of_getElem? (i := 988) (by decide +kernel)) rfl, rfl, by decide +kernel, fun h => by first | rfl | cases h⟩
theorem fX11_80 : ga_F RX11 80 11 23 := ⟨_, rfl, by decide, ga_in (List.mem_of_getElem? (i := 989) (by decide +kernel)) rfl⟩
theorem pX11_80 : ga_FP RX11 80 11 23 (.array .int) true := ⟨_, rfl, by decide, ga_in (List.mem_of_getElem? (i := 989) (by decide +kernel)) rfl, rfl, by decide +kernel, fun h => by first | rfl | cases h⟩
theorem fX11_83 : ga_F RX11 83 11 24 := ⟨_, rfl, by decide, ga_in (List.mem_of_getElem? (i := 990) (by decide +kernel)) rfl⟩
theorem pX11_83 : ga_FP RX11 83 11 24 .int false := ⟨_, rfl, by decide, ga_in (List.mem_of_getElem? (i := 990) (by decide +kernel)) rfl, rfl, by decide +kernel, fun h => by first | rfl | cases h⟩
theorem fX11_86 : ga_F RX11 86 11 25 := ⟨_, rfl, by decide, ga_in (List.mem_of_getElem? (i := 991) (by decide +kernel)) rfl⟩
theorem pX11_86 : ga_FP RX11 86 11 25 .int false := ⟨_, rfl, by decide, ga_in (List.mem_of_getElem? (i := 991) (by decide +kernel)) rfl, rfl, by decide +kernel, fun h => by first | rfl | cases h⟩
theorem fX11_89 : ga_F RX11 89 11 26 := ⟨_, rfl, by decide, ga_in (List.mem_of_getElem? (i := 992) (by decide +kernel)) rfl⟩
theorem pX11_89 : ga_FP RX11 89 11 26 .int false := ⟨_, rfl, by decide, ga_in (List.mem_of_getElem? (i := 992) (by decide +kernel)) rfl, rfl, by decide +kernel, fun h => by first | rfl | cases h⟩
theorem fX11_92 : ga_F RX11 92 11 27 := ⟨_, rfl, by decide, ga_in (List.mem_of_getElem? (i := 993) (by decide +kernel)) rfl⟩
theorem pX11_92 : ga_FP RX11 92 11 27 .int false := ⟨_, rfl, by decide, ga_in (List.mem_of_getElem? (i := 993) (by decide +kernel)) rfl, rfl, by decide +kernel, fun h => by first | rfl | cases h⟩
theorem fX11_95 : ga_F RX11 95 11 28 := ⟨_, rfl, by decide, ga_in (List.mem_of_getElem? (i := 994) (by decide +kernel)) rfl⟩
theorem pX11_95 : ga_FP RX11 95 11 28 .int false := ⟨_, rfl, by decide, ga_in (List.mem_of_getElem? (i := 994) (by decide +kernel)) rfl, rfl, by decide +kernel, fun h => by first | rfl | cases h⟩
theorem fX11_98 : ga_F RX11 98 11 29 := ⟨_, rfl, by decide, ga_in (List.mem_of_getElem? (i := 995) (by decide +kernel)) rfl⟩
theorem pX11_98 : ga_FP RX11 98 11 29 .int false := ⟨_, rfl, by decide, ga_in (List.mem_of_getElem? (i := 995) (by decide +kernel)) rfl, rfl, by decide +kernel, fun h => by first | rfl | cases h⟩
theorem fX11_101 : ga_F RX11 101 11 30 := ⟨_, rfl, by decide, ga_in (List.mem_of_getElem? (i := 996) (by decide +kernel)) rfl⟩
theorem pX11_101 : ga_FP RX11 101 11 30 .int false := ⟨_, rfl, by decide, ga_in (List.mem_of_getElem? (i := 996) (by decide +kernel)) rfl, rfl, by decide +kernel, fun h => by first | rfl | cases h⟩
theorem fX11_104 : ga_F RX11 104 11 31 := ⟨_, rfl, by decide, ga_in (List.mem_of_getElem? (i := 997) (by decide +kernel)) rfl⟩
theorem pX11_104 : ga_FP RX11 104 11 31 .int false := ⟨_, rfl, by decide, ga_in (List.mem_of_getElem? (i := 997) (by decide +kernel)) rfl, rfl, by decide +kernel, fun h => by first | rfl | cases h⟩
theorem fX11_107 : ga_F RX11 107 11 32 := ⟨_, rfl, by decide, ga_in (List.mem_of_getElem? (i := 998) (by decide +kernel)) rfl⟩
theorem pX11_107 : ga_FP RX11 107 11 32 (.array .int) true := ⟨_, rfl, by decide, ga_in (List.mem_of_getElem? (i := 998) (by decide +kernel)) rfl, rfl, by decide +kernel, fun h => by first | rfl | cases h⟩
theorem fX11_110 : ga_F RX11 110 11 33 := ⟨_, rfl, by decide, ga_in (List.mem_of_getElem? (i := 999) (by decide +kernel)) rfl⟩
theorem pX11_110 : ga_FP RX11 110 11 33 (.array .int) true := ⟨_, rfl, by decide, ga_in (List.mem_of_getElem? (i := 999) (by decide +kernel)) rfl, rfl, by decide +kernel, fun h => by first | rfl | cases h⟩
theorem fX11_113 : ga_F RX11 113 11 34 := ⟨_, rfl, by decide, ga_in (List.mem_of_getElem? (i := 1000) (by decide +kernel)) rfl⟩
theorem pX11_113 : ga_FP RX11 113 11 34 (.array .int) true := ⟨_, rfl, by decide, ga_in (List.mem_of_getElem? (i := 1000) (by decide +kernel)) rfl, rfl, by decide +kernel, fun h => by first | rfl | cases h⟩
theorem fX11_116 : ga_F RX11 116 11 35 := ⟨_, rfl, by decide, ga_in (List.mem_of_getElem? (i := 1001) (by decide +kernel)) rfl⟩
theorem pX11_116 : ga_FP RX11 116 11 35 (.array .int) true := ⟨_, rfl, by decide, ga_in (List.mem_of_getElem? (i := 1001) (by decide +kernel)) rfl, rfl, by decide +kernel, fun h => by first | rfl | cases h⟩
theorem fX11_119 : ga_F RX11 119 11 36 := ⟨_, rfl, by decide, ga_in (List.mem_of_getElem? (i := 1002) (by decide +kernel)) rfl⟩
theorem pX11_119 : ga_FP RX11 119 11 36 (.array .int) true := ⟨_, rfl, by decide, ga_in (List.mem_of_getElem? (i := 1002) (by decide +kernel)) rfl, rfl, by decide +kernel, fun h => by first | rfl | cases h⟩
theorem fX11_122 : ga_F RX11 122 11 37 := ⟨_, rfl, by decide, ga_in (List.mem_of_getElem? (i := 1003) (by decide +kernel)) rfl⟩
theorem pX11_122 : ga_FP RX11 122 11 37 (.array .int) true := ⟨_, rfl, by decide, ga_in (List.mem_of_getElem? (i := 1003) (by decide +kernel)) rfl, rfl, by decide +kernel, fun h => by first | rfl | cases h⟩
theorem fX11_125 : ga_F RX11 125 11 38 := ⟨_, rfl, by decide, ga_in (List.mem_of_getElem? (i := 1004) (by decide +kernel)) rfl⟩
theorem pX11_125 : ga_FP RX11 125 11 38 (.array .boolean) true := ⟨_, rfl, by decide, ga_in (List.mem_of_getElem? (i := 1004) (by decide +kernel)) rfl, rfl, by decide +kernel, fun h => by first | rfl | cases h⟩
theorem fX11_129 : ga_F RX11 129 11 39 := ⟨_, rfl, by decide, ga_in (List.mem_of_getElem? (i := 1005) (by decide +kernel)) rfl⟩
theorem pX11_129 : ga_FP RX11 129 11 39 .int false := ⟨_, rfl, by decide, ga_in (List.mem_of_getElem? (i := 1005) (by decide +kernel)) rfl, rfl, by decide +kernel, fun h => by first | rfl | cases h⟩
theorem fX11_132 : ga_F RX11 132 11 40 := ⟨_, rfl, by decide, ga_in (List.mem_of_getElem? (i := 1006) (by decide +kernel)) rfl⟩
theorem pX11_132 : ga_FP RX11 132 11 40 .int false := ⟨_, rfl, by decide, ga_in (List.mem_of_getElem? (i := 1006) (by decide +kernel)) rfl, rfl, by decide +kernel, fun h => by first | rfl | cases h⟩
theorem fX11_135 : ga_F RX11 135 11 41 := ⟨_, rfl, by decide, ga_in (List.mem_of_getElem? (i := 1007) (by decide +kernel)) rfl⟩
theorem pX11_135 : ga_FP RX11 135 11 41 (.array .long) true := ⟨_, rfl, by decide, ga_in (List.mem_of_getElem? (i := 1007) (by decide +kernel)) rfl, rfl, by decide +kernel, fun h => by first | rfl | cases h⟩
theorem fX11_139 : ga_F RX11 139 11 42 := ⟨_, rfl, by decide, ga_in (List.mem_of_getElem? (i := 1008) (by decide +kernel)) rfl⟩
theorem pX11_139 : ga_FP RX11 139 11 42 (.array .long) true := ⟨_, rfl, by decide, ga_in (List.mem_of_getElem? (i := 1008) (by decide +kernel)) rfl, rfl, by decide +kernel, fun h => by first | rfl | cases h⟩
theorem fX11_142 : ga_F RX11 142 11 43 := ⟨_, rfl, by decide, ga_in (List.mem_of_getElem? (i := 1009) (by decide +kernel)) rfl⟩
theorem pX11_142 : ga_FP RX11 142 11 43 (.array .boolean) true := ⟨_, rfl, by decide, ga_in (List.mem_of_getElem? (i := 1009) (by decide +kernel)) rfl, rfl, by decide +kernel, fun h => by first | rfl | cases h⟩
theorem ar_boolean : Cond.arrayClass .boolean ∈ ga_T := ga_in (List.mem_of_getElem? (i := 1099) (by decide +kernel)) rfl
theorem mL_17 : Cond.methodLink RL 17 yX11_feed ∈ ga_T := ga_in (List.mem_of_getElem? (i := 1100) (by decide +kernel)) rfl
theorem yX11_feed_ok : ga_Yv yX11_feed cX11_feed 6 (some .int) 5 := ⟨⟨ga_in (List.mem_of_getElem? (i := 89) (by decide +kernel)) rfl, ga_in (List.mem_of_getElem? (i := 1103) (by decide +kernel)) rfl, by decide +kernel, by decide⟩, ga_in (List.mem_of_getElem? (i := 1101) (by decide +kernel)) rfl, ga_in (List.mem_of_getElem? (i := 1102) (by decide +kernel)) rfl⟩
theorem mX11_145 : Cond.methodLink RX11 145 yX11_put ∈ ga_T := ga_in (List.mem_of_getElem? (i := 1104) (by decide +kernel)) rfl
theorem yX11_put_ok : ga_Yv yX11_put cX11_put 3 none 1 := ⟨⟨ga_in (List.mem_of_getElem? (i := 89) (by decide +kernel)) rfl, ga_in (List.mem_of_getElem? (i := 1107) (by decide +kernel)) rfl, by decide +kernel, by decide⟩, ga_in (List.mem_of_getElem? (i := 1106) (by decide +kernel)) rfl, ga_in (List.mem_of_getElem? (i := 36) (by decide +kernel)) rfl⟩
theorem mL_22 : Cond.methodLink RL 22 yX11_end ∈ ga_T := ga_in (List.mem_of_getElem? (i := 1108) (by decide +kernel)) rfl
theorem yX11_end_ok : ga_Yv yX11_end cX11_end 2 (some .boolean) 1 := ⟨⟨ga_in (List.mem_of_getElem? (i := 89) (by decide +kernel)) rfl, ga_in (List.mem_of_getElem? (i := 1111) (by decide +kernel)) rfl, by decide +kernel, by decide⟩, ga_in (List.mem_of_getElem? (i := 1109) (by decide +kernel)) rfl, ga_in (List.mem_of_getElem? (i := 1110) (by decide +kernel)) rfl⟩
theorem mL_27 : Cond.methodLink RL 27 yX11_rider ∈ ga_T := ga_in (List.mem_of_getElem? (i := 1112) (by decide +kernel)) rfl
theorem yX11_rider_ok : ga_Yv yX11_rider cX11_rider 4 (some .int) 1 := ⟨⟨ga_in (List.mem_of_getElem? (i := 89) (by decide +kernel)) rfl, ga_in (List.mem_of_getElem? (i := 1115) (by decide +kernel)) rfl, by decide +kernel, by decide⟩, ga_in (List.mem_of_getElem? (i := 1113) (by decide +kernel)) rfl, ga_in (List.mem_of_getElem? (i := 1114) (by decide +kernel)) rfl⟩
theorem mX11_149 : Cond.methodLink RX11 149 yX11_is ∈ ga_T := ga_in (List.mem_of_getElem? (i := 1116) (by decide +kernel)) rfl
theorem yX11_is_ok : ga_Ys yX11_is cX11_is 3 (some .boolean) 3 := ⟨⟨ga_in (List.mem_of_getElem? (i := 89) (by decide +kernel)) rfl, ga_in (List.mem_of_getElem? (i := 1118) (by decide +kernel)) rfl, by decide +kernel, by decide⟩, ga_in (List.mem_of_getElem? (i := 1117) (by decide +kernel)) rfl⟩
theorem mL_31 : Cond.methodLink RL 31 yX11_fence ∈ ga_T := ga_in (List.mem_of_getElem? (i := 1119) (by decide +kernel)) rfl
theorem yX11_fence_ok : ga_Yv yX11_fence cX11_fence 2 (some .int) 1 := ⟨⟨ga_in (List.mem_of_getElem? (i := 89) (by decide +kernel)) rfl, ga_in (List.mem_of_getElem? (i := 1122) (by decide +kernel)) rfl, by decide +kernel, by decide⟩, ga_in (List.mem_of_getElem? (i := 1120) (by decide +kernel)) rfl, ga_in (List.mem_of_getElem? (i := 1121) (by decide +kernel)) rfl⟩
theorem mL_36 : Cond.methodLink RL 36 yX11_course ∈ ga_T := ga_in (List.mem_of_getElem? (i := 1123) (by decide +kernel)) rfl
theorem yX11_course_ok : ga_Yv yX11_course cX11_course 3 (some .int) 2 := ⟨⟨ga_in (List.mem_of_getElem? (i := 89) (by decide +kernel)) rfl, ga_in (List.mem_of_getElem? (i := 1126) (by decide +kernel)) rfl, by decide +kernel, by decide⟩, ga_in (List.mem_of_getElem? (i := 1124) (by decide +kernel)) rfl, ga_in (List.mem_of_getElem? (i := 1125) (by decide +kernel)) rfl⟩
theorem mX11_153 : Cond.methodLink RX11 153 yX11_optimum ∈ ga_T := ga_in (List.mem_of_getElem? (i := 1127) (by decide +kernel)) rfl
theorem yX11_optimum_ok : ga_Yv yX11_optimum cX11_optimum 3 (some .int) 0 := ⟨⟨ga_in (List.mem_of_getElem? (i := 89) (by decide +kernel)) rfl, ga_in (List.mem_of_getElem? (i := 1130) (by decide +kernel)) rfl, by decide +kernel, by decide⟩, ga_in (List.mem_of_getElem? (i := 1129) (by decide +kernel)) rfl, ga_in (List.mem_of_getElem? (i := 37) (by decide +kernel)) rfl⟩
theorem mL_41 : Cond.methodLink RL 41 yX11_clock ∈ ga_T := ga_in (List.mem_of_getElem? (i := 1131) (by decide +kernel)) rfl
theorem yX11_clock_ok : ga_Yv yX11_clock cX11_clock 3 (some .boolean) 2 := ⟨⟨ga_in (List.mem_of_getElem? (i := 89) (by decide +kernel)) rfl, ga_in (List.mem_of_getElem? (i := 1134) (by decide +kernel)) rfl, by decide +kernel, by decide⟩, ga_in (List.mem_of_getElem? (i := 1132) (by decide +kernel)) rfl, ga_in (List.mem_of_getElem? (i := 1133) (by decide +kernel)) rfl⟩
theorem mL_45 : Cond.methodLink RL 45 yX11_out ∈ ga_T := ga_in (List.mem_of_getElem? (i := 1135) (by decide +kernel)) rfl
theorem yX11_out_ok : ga_Yv yX11_out cX11_out 3 (some .boolean) 2 := ⟨⟨ga_in (List.mem_of_getElem? (i := 89) (by decide +kernel)) rfl, ga_in (List.mem_of_getElem? (i := 1138) (by decide +kernel)) rfl, by decide +kernel, by decide⟩, ga_in (List.mem_of_getElem? (i := 1136) (by decide +kernel)) rfl, ga_in (List.mem_of_getElem? (i := 1137) (by decide +kernel)) rfl⟩
theorem kX11_157 : Cond.constant RX11 157 (86399) ∈ ga_T := ga_in (List.mem_of_getElem? (i := 1139) (by decide +kernel)) rfl
theorem mL_49 : Cond.methodLink RL 49 yX11_report ∈ ga_T := ga_in (List.mem_of_getElem? (i := 1140) (by decide +kernel)) rfl
theorem yX11_report_ok : ga_Yv yX11_report cX11_report 6 (some .int) 5 := ⟨⟨ga_in (List.mem_of_getElem? (i := 89) (by decide +kernel)) rfl, ga_in (List.mem_of_getElem? (i := 1143) (by decide +kernel)) rfl, by decide +kernel, by decide⟩, ga_in (List.mem_of_getElem? (i := 1141) (by decide +kernel)) rfl, ga_in (List.mem_of_getElem? (i := 1142) (by decide +kernel)) rfl⟩
theorem mX11_163 : Cond.methodLink RX11 163 yX11_may ∈ ga_T := ga_in (List.mem_of_getElem? (i := 1144) (by decide +kernel)) rfl
theorem yX11_may_ok : ga_Yv yX11_may cX11_may 6 (some .boolean) 4 := ⟨⟨ga_in (List.mem_of_getElem? (i := 89) (by decide +kernel)) rfl, ga_in (List.mem_of_getElem? (i := 1147) (by decide +kernel)) rfl, by decide +kernel, by decide⟩, ga_in (List.mem_of_getElem? (i := 1146) (by decide +kernel)) rfl, ga_in (List.mem_of_getElem? (i := 38) (by decide +kernel)) rfl⟩
theorem mX11_159 : Cond.methodLink RX11 159 yX11_isSecond ∈ ga_T := ga_in (List.mem_of_getElem? (i := 1148) (by decide +kernel)) rfl
theorem yX11_isSecond_ok : ga_Ys yX11_isSecond cX11_isSecond 1 (some .boolean) 1 := ⟨⟨ga_in (List.mem_of_getElem? (i := 89) (by decide +kernel)) rfl, ga_in (List.mem_of_getElem? (i := 1150) (by decide +kernel)) rfl, by decide +kernel, by decide⟩, ga_in (List.mem_of_getElem? (i := 1149) (by decide +kernel)) rfl⟩
theorem kX11_158 : Cond.constant RX11 158 (86400) ∈ ga_T := ga_in (List.mem_of_getElem? (i := 1151) (by decide +kernel)) rfl
theorem mL_53 : Cond.methodLink RL 53 yX11_strike ∈ ga_T := ga_in (List.mem_of_getElem? (i := 1152) (by decide +kernel)) rfl
theorem yX11_strike_ok : ga_Yv yX11_strike cX11_strike 2 (some .int) 1 := ⟨⟨ga_in (List.mem_of_getElem? (i := 89) (by decide +kernel)) rfl, ga_in (List.mem_of_getElem? (i := 1155) (by decide +kernel)) rfl, by decide +kernel, by decide⟩, ga_in (List.mem_of_getElem? (i := 1153) (by decide +kernel)) rfl, ga_in (List.mem_of_getElem? (i := 1154) (by decide +kernel)) rfl⟩
theorem mL_57 : Cond.methodLink RL 57 yX11_as ∈ ga_T := ga_in (List.mem_of_getElem? (i := 1156) (by decide +kernel)) rfl
theorem yX11_as_ok : ga_Yv yX11_as cX11_as 2 (some .boolean) 1 := ⟨⟨ga_in (List.mem_of_getElem? (i := 89) (by decide +kernel)) rfl, ga_in (List.mem_of_getElem? (i := 1159) (by decide +kernel)) rfl, by decide +kernel, by decide⟩, ga_in (List.mem_of_getElem? (i := 1157) (by decide +kernel)) rfl, ga_in (List.mem_of_getElem? (i := 1158) (by decide +kernel)) rfl⟩
theorem mL_70 : Cond.methodLink RL 70 yX11_count ∈ ga_T := ga_in (List.mem_of_getElem? (i := 1160) (by decide +kernel)) rfl
theorem yX11_count_ok : ga_Yv yX11_count cX11_count 3 (some .int) 2 := ⟨⟨ga_in (List.mem_of_getElem? (i := 89) (by decide +kernel)) rfl, ga_in (List.mem_of_getElem? (i := 1163) (by decide +kernel)) rfl, by decide +kernel, by decide⟩, ga_in (List.mem_of_getElem? (i := 1161) (by decide +kernel)) rfl, ga_in (List.mem_of_getElem? (i := 1162) (by decide +kernel)) rfl⟩
theorem mX11_175 : Cond.methodLink RX11 175 yX11_isRider ∈ ga_T := ga_in (List.mem_of_getElem? (i := 1164) (by decide +kernel)) rfl
theorem yX11_isRider_ok : ga_Yv yX11_isRider cX11_isRider 2 (some .boolean) 1 := ⟨⟨ga_in (List.mem_of_getElem? (i := 89) (by decide +kernel)) rfl, ga_in (List.mem_of_getElem? (i := 1167) (by decide +kernel)) rfl, by decide +kernel, by decide⟩, ga_in (List.mem_of_getElem? (i := 1166) (by decide +kernel)) rfl, ga_in (List.mem_of_getElem? (i := 39) (by decide +kernel)) rfl⟩
theorem kX11_178 : Cond.constant RX11 178 (-2000000) ∈ ga_T := ga_in (List.mem_of_getElem? (i := 1168) (by decide +kernel)) rfl
theorem mX11_179 : Cond.methodLink RX11 179 yX11_known ∈ ga_T := ga_in (List.mem_of_getElem? (i := 1169) (by decide +kernel)) rfl
theorem yX11_known_ok : ga_Yv yX11_known cX11_known 1 (some .int) 0 := ⟨⟨ga_in (List.mem_of_getElem? (i := 89) (by decide +kernel)) rfl, ga_in (List.mem_of_getElem? (i := 1172) (by decide +kernel)) rfl, by decide +kernel, by decide⟩, ga_in (List.mem_of_getElem? (i := 1171) (by decide +kernel)) rfl, ga_in (List.mem_of_getElem? (i := 40) (by decide +kernel)) rfl⟩
theorem mX11_182 : Cond.methodLink RX11 182 yX11_tallies ∈ ga_T := ga_in (List.mem_of_getElem? (i := 1173) (by decide +kernel)) rfl
theorem yX11_tallies_ok : ga_Yv yX11_tallies cX11_tallies 6 none 2 := ⟨⟨ga_in (List.mem_of_getElem? (i := 89) (by decide +kernel)) rfl, ga_in (List.mem_of_getElem? (i := 1176) (by decide +kernel)) rfl, by decide +kernel, by decide⟩, ga_in (List.mem_of_getElem? (i := 1175) (by decide +kernel)) rfl, ga_in (List.mem_of_getElem? (i := 41) (by decide +kernel)) rfl⟩
theorem kX11_167 : Cond.constant RX11 167 (-1000000) ∈ ga_T := ga_in (List.mem_of_getElem? (i := 1177) (by decide +kernel)) rfl
theorem mX11_168 : Cond.methodLink RX11 168 yX11_stands ∈ ga_T := ga_in (List.mem_of_getElem? (i := 1178) (by decide +kernel)) rfl
theorem yX11_stands_ok : ga_Yv yX11_stands cX11_stands 4 (some .boolean) 3 := ⟨⟨ga_in (List.mem_of_getElem? (i := 89) (by decide +kernel)) rfl, ga_in (List.mem_of_getElem? (i := 1181) (by decide +kernel)) rfl, by decide +kernel, by decide⟩, ga_in (List.mem_of_getElem? (i := 1180) (by decide +kernel)) rfl, ga_in (List.mem_of_getElem? (i := 42) (by decide +kernel)) rfl⟩
theorem mX11_171 : Cond.methodLink RX11 171 yX11_fence_ ∈ ga_T := ga_in (List.mem_of_getElem? (i := 1182) (by decide +kernel)) rfl
theorem yX11_fence__ok : ga_Yv yX11_fence_ cX11_fence_ 6 none 5 := ⟨⟨ga_in (List.mem_of_getElem? (i := 89) (by decide +kernel)) rfl, ga_in (List.mem_of_getElem? (i := 1185) (by decide +kernel)) rfl, by decide +kernel, by decide⟩, ga_in (List.mem_of_getElem? (i := 1184) (by decide +kernel)) rfl, ga_in (List.mem_of_getElem? (i := 43) (by decide +kernel)) rfl⟩
theorem mL_62 : Cond.methodLink RL 62 yX11_rules ∈ ga_T := ga_in (List.mem_of_getElem? (i := 1186) (by decide +kernel)) rfl
theorem yX11_rules_ok : ga_Yv yX11_rules cX11_rules 2 (some .int) 0 := ⟨⟨ga_in (List.mem_of_getElem? (i := 89) (by decide +kernel)) rfl, ga_in (List.mem_of_getElem? (i := 1189) (by decide +kernel)) rfl, by decide +kernel, by decide⟩, ga_in (List.mem_of_getElem? (i := 1187) (by decide +kernel)) rfl, ga_in (List.mem_of_getElem? (i := 1188) (by decide +kernel)) rfl⟩
theorem mX11_186 : Cond.methodLink RX11 186 yX11_here ∈ ga_T := ga_in (List.mem_of_getElem? (i := 1190) (by decide +kernel)) rfl
theorem yX11_here_ok : ga_Yv yX11_here cX11_here 1 (some .int) 0 := ⟨⟨ga_in (List.mem_of_getElem? (i := 89) (by decide +kernel)) rfl, ga_in (List.mem_of_getElem? (i := 1193) (by decide +kernel)) rfl, by decide +kernel, by decide⟩, ga_in (List.mem_of_getElem? (i := 1192) (by decide +kernel)) rfl, ga_in (List.mem_of_getElem? (i := 44) (by decide +kernel)) rfl⟩
theorem mX11_300 : Cond.methodLink RX11 300 yX11_statement ∈ ga_T := ga_in (List.mem_of_getElem? (i := 1194) (by decide +kernel)) rfl
theorem yX11_statement_ok : ga_Yv yX11_statement cX11_statement 5 none 0 := ⟨⟨ga_in (List.mem_of_getElem? (i := 89) (by decide +kernel)) rfl, ga_in (List.mem_of_getElem? (i := 1197) (by decide +kernel)) rfl, by decide +kernel, by decide⟩, ga_in (List.mem_of_getElem? (i := 1196) (by decide +kernel)) rfl, ga_in (List.mem_of_getElem? (i := 45) (by decide +kernel)) rfl⟩
theorem mX11_253 : Cond.methodLink RX11 253 yX11_wordSize ∈ ga_T := ga_in (List.mem_of_getElem? (i := 1198) (by decide +kernel)) rfl
theorem yX11_wordSize_ok : ga_Yv yX11_wordSize cX11_wordSize 2 (some .int) 0 := ⟨⟨ga_in (List.mem_of_getElem? (i := 89) (by decide +kernel)) rfl, ga_in (List.mem_of_getElem? (i := 1201) (by decide +kernel)) rfl, by decide +kernel, by decide⟩, ga_in (List.mem_of_getElem? (i := 1200) (by decide +kernel)) rfl, ga_in (List.mem_of_getElem? (i := 46) (by decide +kernel)) rfl⟩
theorem mX11_192 : Cond.methodLink RX11 192 yX11_isLetter ∈ ga_T := ga_in (List.mem_of_getElem? (i := 1202) (by decide +kernel)) rfl
theorem yX11_isLetter_ok : ga_Ys yX11_isLetter cX11_isLetter 1 (some .boolean) 1 := ⟨⟨ga_in (List.mem_of_getElem? (i := 89) (by decide +kernel)) rfl, ga_in (List.mem_of_getElem? (i := 1204) (by decide +kernel)) rfl, by decide +kernel, by decide⟩, ga_in (List.mem_of_getElem? (i := 1203) (by decide +kernel)) rfl⟩
theorem mX11_189 : Cond.methodLink RX11 189 yX11_blame ∈ ga_T := ga_in (List.mem_of_getElem? (i := 1205) (by decide +kernel)) rfl
theorem yX11_blame_ok : ga_Yv yX11_blame cX11_blame 3 none 2 := ⟨⟨ga_in (List.mem_of_getElem? (i := 89) (by decide +kernel)) rfl, ga_in (List.mem_of_getElem? (i := 1208) (by decide +kernel)) rfl, by decide +kernel, by decide⟩, ga_in (List.mem_of_getElem? (i := 1207) (by decide +kernel)) rfl, ga_in (List.mem_of_getElem? (i := 47) (by decide +kernel)) rfl⟩
theorem mX11_259 : Cond.methodLink RX11 259 yX11_isIf ∈ ga_T := ga_in (List.mem_of_getElem? (i := 1209) (by decide +kernel)) rfl
theorem yX11_isIf_ok : ga_Yv yX11_isIf cX11_isIf 3 (some .boolean) 2 := ⟨⟨ga_in (List.mem_of_getElem? (i := 89) (by decide +kernel)) rfl, ga_in (List.mem_of_getElem? (i := 1212) (by decide +kernel)) rfl, by decide +kernel, by decide⟩, ga_in (List.mem_of_getElem? (i := 1211) (by decide +kernel)) rfl, ga_in (List.mem_of_getElem? (i := 48) (by decide +kernel)) rfl⟩
theorem kX11_203 : Cond.constantLong RX11 203 (26982) ∈ ga_T := ga_in (List.mem_of_getElem? (i := 1213) (by decide +kernel)) rfl
theorem mX11_199 : Cond.methodLink RX11 199 yX11_spells ∈ ga_T := ga_in (List.mem_of_getElem? (i := 1214) (by decide +kernel)) rfl
theorem yX11_spells_ok : ga_Yv yX11_spells cX11_spells 8 (some .boolean) 4 := ⟨⟨ga_in (List.mem_of_getElem? (i := 89) (by decide +kernel)) rfl, ga_in (List.mem_of_getElem? (i := 1217) (by decide +kernel)) rfl, by decide +kernel, by decide⟩, ga_in (List.mem_of_getElem? (i := 1216) (by decide +kernel)) rfl, ga_in (List.mem_of_getElem? (i := 49) (by decide +kernel)) rfl⟩
theorem kX11_195 : Cond.constantLong RX11 195 (255) ∈ ga_T := ga_in (List.mem_of_getElem? (i := 1218) (by decide +kernel)) rfl
theorem mX11_265 : Cond.methodLink RX11 265 yX11_isMax ∈ ga_T := ga_in (List.mem_of_getElem? (i := 1219) (by decide +kernel)) rfl
theorem yX11_isMax_ok : ga_Yv yX11_isMax cX11_isMax 3 (some .boolean) 2 := ⟨⟨ga_in (List.mem_of_getElem? (i := 89) (by decide +kernel)) rfl, ga_in (List.mem_of_getElem? (i := 1222) (by decide +kernel)) rfl, by decide +kernel, by decide⟩, ga_in (List.mem_of_getElem? (i := 1221) (by decide +kernel)) rfl, ga_in (List.mem_of_getElem? (i := 50) (by decide +kernel)) rfl⟩
theorem kX11_207 : Cond.constantLong RX11 207 (7168376) ∈ ga_T := ga_in (List.mem_of_getElem? (i := 1223) (by decide +kernel)) rfl
theorem mX11_268 : Cond.methodLink RX11 268 yX11_isMin ∈ ga_T := ga_in (List.mem_of_getElem? (i := 1224) (by decide +kernel)) rfl
theorem yX11_isMin_ok : ga_Yv yX11_isMin cX11_isMin 3 (some .boolean) 2 := ⟨⟨ga_in (List.mem_of_getElem? (i := 89) (by decide +kernel)) rfl, ga_in (List.mem_of_getElem? (i := 1227) (by decide +kernel)) rfl, by decide +kernel, by decide⟩, ga_in (List.mem_of_getElem? (i := 1226) (by decide +kernel)) rfl, ga_in (List.mem_of_getElem? (i := 51) (by decide +kernel)) rfl⟩
theorem kX11_209 : Cond.constantLong RX11 209 (7170414) ∈ ga_T := ga_in (List.mem_of_getElem? (i := 1228) (by decide +kernel)) rfl
theorem mX11_256 : Cond.methodLink RX11 256 yX11_isOut ∈ ga_T := ga_in (List.mem_of_getElem? (i := 1229) (by decide +kernel)) rfl
theorem yX11_isOut_ok : ga_Yv yX11_isOut cX11_isOut 3 (some .boolean) 2 := ⟨⟨ga_in (List.mem_of_getElem? (i := 89) (by decide +kernel)) rfl, ga_in (List.mem_of_getElem? (i := 1232) (by decide +kernel)) rfl, by decide +kernel, by decide⟩, ga_in (List.mem_of_getElem? (i := 1231) (by decide +kernel)) rfl, ga_in (List.mem_of_getElem? (i := 52) (by decide +kernel)) rfl⟩
theorem kX11_197 : Cond.constantLong RX11 197 (7304564) ∈ ga_T := ga_in (List.mem_of_getElem? (i := 1233) (by decide +kernel)) rfl
theorem mX11_292 : Cond.methodLink RX11 292 yX11_sum ∈ ga_T := ga_in (List.mem_of_getElem? (i := 1234) (by decide +kernel)) rfl
theorem yX11_sum_ok : ga_Yv yX11_sum cX11_sum 6 none 0 := ⟨⟨ga_in (List.mem_of_getElem? (i := 89) (by decide +kernel)) rfl, ga_in (List.mem_of_getElem? (i := 1237) (by decide +kernel)) rfl, by decide +kernel, by decide⟩, ga_in (List.mem_of_getElem? (i := 1236) (by decide +kernel)) rfl, ga_in (List.mem_of_getElem? (i := 53) (by decide +kernel)) rfl⟩
theorem mX11_282 : Cond.methodLink RX11 282 yX11_operand ∈ ga_T := ga_in (List.mem_of_getElem? (i := 1238) (by decide +kernel)) rfl
theorem yX11_operand_ok : ga_Yv yX11_operand cX11_operand 6 (some .boolean) 0 := ⟨⟨ga_in (List.mem_of_getElem? (i := 89) (by decide +kernel)) rfl, ga_in (List.mem_of_getElem? (i := 1241) (by decide +kernel)) rfl, by decide +kernel, by decide⟩, ga_in (List.mem_of_getElem? (i := 1240) (by decide +kernel)) rfl, ga_in (List.mem_of_getElem? (i := 54) (by decide +kernel)) rfl⟩
theorem mX11_241 : Cond.methodLink RX11 241 yX11_isDigit ∈ ga_T := ga_in (List.mem_of_getElem? (i := 1242) (by decide +kernel)) rfl
theorem yX11_isDigit_ok : ga_Ys yX11_isDigit cX11_isDigit 1 (some .boolean) 1 := ⟨⟨ga_in (List.mem_of_getElem? (i := 89) (by decide +kernel)) rfl, ga_in (List.mem_of_getElem? (i := 1244) (by decide +kernel)) rfl, by decide +kernel, by decide⟩, ga_in (List.mem_of_getElem? (i := 1243) (by decide +kernel)) rfl⟩
theorem mX11_247 : Cond.methodLink RX11 247 yX11_digits ∈ ga_T := ga_in (List.mem_of_getElem? (i := 1245) (by decide +kernel)) rfl
theorem yX11_digits_ok : ga_Yv yX11_digits cX11_digits 3 (some .int) 0 := ⟨⟨ga_in (List.mem_of_getElem? (i := 89) (by decide +kernel)) rfl, ga_in (List.mem_of_getElem? (i := 1248) (by decide +kernel)) rfl, by decide +kernel, by decide⟩, ga_in (List.mem_of_getElem? (i := 1247) (by decide +kernel)) rfl, ga_in (List.mem_of_getElem? (i := 55) (by decide +kernel)) rfl⟩
theorem mX11_244 : Cond.methodLink RX11 244 yX11_add ∈ ga_T := ga_in (List.mem_of_getElem? (i := 1249) (by decide +kernel)) rfl
theorem yX11_add_ok : ga_Yv yX11_add cX11_add 3 none 2 := ⟨⟨ga_in (List.mem_of_getElem? (i := 89) (by decide +kernel)) rfl, ga_in (List.mem_of_getElem? (i := 1252) (by decide +kernel)) rfl, by decide +kernel, by decide⟩, ga_in (List.mem_of_getElem? (i := 1251) (by decide +kernel)) rfl, ga_in (List.mem_of_getElem? (i := 56) (by decide +kernel)) rfl⟩
theorem mX11_250 : Cond.methodLink RX11 250 yX11_opens ∈ ga_T := ga_in (List.mem_of_getElem? (i := 1253) (by decide +kernel)) rfl
theorem yX11_opens_ok : ga_Yv yX11_opens cX11_opens 2 none 1 := ⟨⟨ga_in (List.mem_of_getElem? (i := 89) (by decide +kernel)) rfl, ga_in (List.mem_of_getElem? (i := 1256) (by decide +kernel)) rfl, by decide +kernel, by decide⟩, ga_in (List.mem_of_getElem? (i := 1255) (by decide +kernel)) rfl, ga_in (List.mem_of_getElem? (i := 57) (by decide +kernel)) rfl⟩
theorem mX11_262 : Cond.methodLink RX11 262 yX11_isTie ∈ ga_T := ga_in (List.mem_of_getElem? (i := 1257) (by decide +kernel)) rfl
theorem yX11_isTie_ok : ga_Yv yX11_isTie cX11_isTie 3 (some .boolean) 2 := ⟨⟨ga_in (List.mem_of_getElem? (i := 89) (by decide +kernel)) rfl, ga_in (List.mem_of_getElem? (i := 1260) (by decide +kernel)) rfl, by decide +kernel, by decide⟩, ga_in (List.mem_of_getElem? (i := 1259) (by decide +kernel)) rfl, ga_in (List.mem_of_getElem? (i := 58) (by decide +kernel)) rfl⟩
theorem kX11_205 : Cond.constantLong RX11 205 (7629157) ∈ ga_T := ga_in (List.mem_of_getElem? (i := 1261) (by decide +kernel)) rfl
theorem mX11_271 : Cond.methodLink RX11 271 yX11_whichCount ∈ ga_T := ga_in (List.mem_of_getElem? (i := 1262) (by decide +kernel)) rfl
theorem yX11_whichCount_ok : ga_Yv yX11_whichCount cX11_whichCount 3 (some .int) 2 := ⟨⟨ga_in (List.mem_of_getElem? (i := 89) (by decide +kernel)) rfl, ga_in (List.mem_of_getElem? (i := 1265) (by decide +kernel)) rfl, by decide +kernel, by decide⟩, ga_in (List.mem_of_getElem? (i := 1264) (by decide +kernel)) rfl, ga_in (List.mem_of_getElem? (i := 59) (by decide +kernel)) rfl⟩
theorem kX11_211 : Cond.constantLong RX11 211 (469786323827) ∈ ga_T := ga_in (List.mem_of_getElem? (i := 1266) (by decide +kernel)) rfl
theorem kX11_213 : Cond.constantLong RX11 213 (1919512167) ∈ ga_T := ga_in (List.mem_of_getElem? (i := 1267) (by decide +kernel)) rfl
theorem kX11_215 : Cond.constantLong RX11 215 (8243107347604532339) ∈ ga_T := ga_in (List.mem_of_getElem? (i := 1268) (by decide +kernel)) rfl
theorem kX11_217 : Cond.constantLong RX11 217 (439721159795) ∈ ga_T := ga_in (List.mem_of_getElem? (i := 1269) (by decide +kernel)) rfl
theorem kX11_219 : Cond.constantLong RX11 219 (120299675936100) ∈ ga_T := ga_in (List.mem_of_getElem? (i := 1270) (by decide +kernel)) rfl
theorem kX11_221 : Cond.constantLong RX11 221 (439855772532) ∈ ga_T := ga_in (List.mem_of_getElem? (i := 1271) (by decide +kernel)) rfl
theorem kX11_223 : Cond.constantLong RX11 223 (126879297138276) ∈ ga_T := ga_in (List.mem_of_getElem? (i := 1272) (by decide +kernel)) rfl
theorem kX11_225 : Cond.constantLong RX11 225 (499967947364) ∈ ga_T := ga_in (List.mem_of_getElem? (i := 1273) (by decide +kernel)) rfl
theorem kX11_227 : Cond.constantLong RX11 227 (118122059361139) ∈ ga_T := ga_in (List.mem_of_getElem? (i := 1274) (by decide +kernel)) rfl
theorem kX11_229 : Cond.constantLong RX11 229 (465726040947) ∈ ga_T := ga_in (List.mem_of_getElem? (i := 1275) (by decide +kernel)) rfl
theorem kX11_231 : Cond.constantLong RX11 231 (32199698004731236) ∈ ga_T := ga_in (List.mem_of_getElem? (i := 1276) (by decide +kernel)) rfl
theorem kX11_233 : Cond.constantLong RX11 233 (129117242877294) ∈ ga_T := ga_in (List.mem_of_getElem? (i := 1277) (by decide +kernel)) rfl
theorem kX11_235 : Cond.constantLong RX11 235 (1870030194) ∈ ga_T := ga_in (List.mem_of_getElem? (i := 1278) (by decide +kernel)) rfl
theorem kX11_237 : Cond.constantLong RX11 237 (504363246962) ∈ ga_T := ga_in (List.mem_of_getElem? (i := 1279) (by decide +kernel)) rfl
theorem kX11_239 : Cond.constantLong RX11 239 (31367367702181229) ∈ ga_T := ga_in (List.mem_of_getElem? (i := 1280) (by decide +kernel)) rfl
theorem mX11_275 : Cond.methodLink RX11 275 yX11_whichGiven ∈ ga_T := ga_in (List.mem_of_getElem? (i := 1281) (by decide +kernel)) rfl
theorem yX11_whichGiven_ok : ga_Yv yX11_whichGiven cX11_whichGiven 6 (some .int) 2 := ⟨⟨ga_in (List.mem_of_getElem? (i := 89) (by decide +kernel)) rfl, ga_in (List.mem_of_getElem? (i := 1284) (by decide +kernel)) rfl, by decide +kernel, by decide⟩, ga_in (List.mem_of_getElem? (i := 1283) (by decide +kernel)) rfl, ga_in (List.mem_of_getElem? (i := 60) (by decide +kernel)) rfl⟩
theorem mX11_278 : Cond.methodLink RX11 278 yX11_joins ∈ ga_T := ga_in (List.mem_of_getElem? (i := 1285) (by decide +kernel)) rfl
theorem yX11_joins_ok : ga_Yv yX11_joins cX11_joins 2 none 1 := ⟨⟨ga_in (List.mem_of_getElem? (i := 89) (by decide +kernel)) rfl, ga_in (List.mem_of_getElem? (i := 1288) (by decide +kernel)) rfl, by decide +kernel, by decide⟩, ga_in (List.mem_of_getElem? (i := 1287) (by decide +kernel)) rfl, ga_in (List.mem_of_getElem? (i := 61) (by decide +kernel)) rfl⟩
theorem mX11_286 : Cond.methodLink RX11 286 yX11_closes ∈ ga_T := ga_in (List.mem_of_getElem? (i := 1289) (by decide +kernel)) rfl
theorem yX11_closes_ok : ga_Yv yX11_closes cX11_closes 2 none 0 := ⟨⟨ga_in (List.mem_of_getElem? (i := 89) (by decide +kernel)) rfl, ga_in (List.mem_of_getElem? (i := 1292) (by decide +kernel)) rfl, by decide +kernel, by decide⟩, ga_in (List.mem_of_getElem? (i := 1291) (by decide +kernel)) rfl, ga_in (List.mem_of_getElem? (i := 62) (by decide +kernel)) rfl⟩
theorem mX11_289 : Cond.methodLink RX11 289 yX11_commas ∈ ga_T := ga_in (List.mem_of_getElem? (i := 1293) (by decide +kernel)) rfl
theorem yX11_commas_ok : ga_Yv yX11_commas cX11_commas 1 none 0 := ⟨⟨ga_in (List.mem_of_getElem? (i := 89) (by decide +kernel)) rfl, ga_in (List.mem_of_getElem? (i := 1296) (by decide +kernel)) rfl, by decide +kernel, by decide⟩, ga_in (List.mem_of_getElem? (i := 1295) (by decide +kernel)) rfl, ga_in (List.mem_of_getElem? (i := 63) (by decide +kernel)) rfl⟩
theorem mX11_295 : Cond.methodLink RX11 295 yX11_must ∈ ga_T := ga_in (List.mem_of_getElem? (i := 1297) (by decide +kernel)) rfl
theorem yX11_must_ok : ga_Yv yX11_must cX11_must 2 none 1 := ⟨⟨ga_in (List.mem_of_getElem? (i := 89) (by decide +kernel)) rfl, ga_in (List.mem_of_getElem? (i := 1300) (by decide +kernel)) rfl, by decide +kernel, by decide⟩, ga_in (List.mem_of_getElem? (i := 1299) (by decide +kernel)) rfl, ga_in (List.mem_of_getElem? (i := 64) (by decide +kernel)) rfl⟩
theorem kX11_298 : Cond.constantLong RX11 298 (500086104428) ∈ ga_T := ga_in (List.mem_of_getElem? (i := 1301) (by decide +kernel)) rfl
theorem mL_66 : Cond.methodLink RL 66 yX11_fault ∈ ga_T := ga_in (List.mem_of_getElem? (i := 1302) (by decide +kernel)) rfl
theorem yX11_fault_ok : ga_Yv yX11_fault cX11_fault 2 (some .int) 1 := ⟨⟨ga_in (List.mem_of_getElem? (i := 89) (by decide +kernel)) rfl, ga_in (List.mem_of_getElem? (i := 1305) (by decide +kernel)) rfl, by decide +kernel, by decide⟩, ga_in (List.mem_of_getElem? (i := 1303) (by decide +kernel)) rfl, ga_in (List.mem_of_getElem? (i := 1304) (by decide +kernel)) rfl⟩
theorem mL_75 : Cond.methodLink RL 75 yX11_given ∈ ga_T := ga_in (List.mem_of_getElem? (i := 1306) (by decide +kernel)) rfl
theorem yX11_given_ok : ga_Yv yX11_given cX11_given 3 (some .long) 2 := ⟨⟨ga_in (List.mem_of_getElem? (i := 89) (by decide +kernel)) rfl, ga_in (List.mem_of_getElem? (i := 1309) (by decide +kernel)) rfl, by decide +kernel, by decide⟩, ga_in (List.mem_of_getElem? (i := 1307) (by decide +kernel)) rfl, ga_in (List.mem_of_getElem? (i := 1308) (by decide +kernel)) rfl⟩
theorem kX11_329 : Cond.constantLong RX11 329 (-2000000000000) ∈ ga_T := ga_in (List.mem_of_getElem? (i := 1310) (by decide +kernel)) rfl
theorem mX11_326 : Cond.methodLink RX11 326 yX11_worksAll ∈ ga_T := ga_in (List.mem_of_getElem? (i := 1311) (by decide +kernel)) rfl
theorem yX11_worksAll_ok : ga_Yv yX11_worksAll cX11_worksAll 4 none 2 := ⟨⟨ga_in (List.mem_of_getElem? (i := 89) (by decide +kernel)) rfl, ga_in (List.mem_of_getElem? (i := 1314) (by decide +kernel)) rfl, by decide +kernel, by decide⟩, ga_in (List.mem_of_getElem? (i := 1313) (by decide +kernel)) rfl, ga_in (List.mem_of_getElem? (i := 65) (by decide +kernel)) rfl⟩
theorem mX11_322 : Cond.methodLink RX11 322 yX11_works ∈ ga_T := ga_in (List.mem_of_getElem? (i := 1315) (by decide +kernel)) rfl
theorem yX11_works_ok : ga_Yv yX11_works cX11_works 7 (some .long) 2 := ⟨⟨ga_in (List.mem_of_getElem? (i := 89) (by decide +kernel)) rfl, ga_in (List.mem_of_getElem? (i := 1318) (by decide +kernel)) rfl, by decide +kernel, by decide⟩, ga_in (List.mem_of_getElem? (i := 1317) (by decide +kernel)) rfl, ga_in (List.mem_of_getElem? (i := 66) (by decide +kernel)) rfl⟩
theorem mX11_307 : Cond.methodLink RX11 307 yX11_over ∈ ga_T := ga_in (List.mem_of_getElem? (i := 1319) (by decide +kernel)) rfl
theorem yX11_over_ok : ga_Ys yX11_over cX11_over 6 (some .long) 2 := ⟨⟨ga_in (List.mem_of_getElem? (i := 89) (by decide +kernel)) rfl, ga_in (List.mem_of_getElem? (i := 1321) (by decide +kernel)) rfl, by decide +kernel, by decide⟩, ga_in (List.mem_of_getElem? (i := 1320) (by decide +kernel)) rfl⟩
theorem mX11_311 : Cond.methodLink RX11 311 yX11_two ∈ ga_T := ga_in (List.mem_of_getElem? (i := 1322) (by decide +kernel)) rfl
theorem yX11_two_ok : ga_Ys yX11_two cX11_two 5 (some .long) 3 := ⟨⟨ga_in (List.mem_of_getElem? (i := 89) (by decide +kernel)) rfl, ga_in (List.mem_of_getElem? (i := 1324) (by decide +kernel)) rfl, by decide +kernel, by decide⟩, ga_in (List.mem_of_getElem? (i := 1323) (by decide +kernel)) rfl⟩
theorem mX11_315 : Cond.methodLink RX11 315 yX11_held ∈ ga_T := ga_in (List.mem_of_getElem? (i := 1325) (by decide +kernel)) rfl
theorem yX11_held_ok : ga_Ys yX11_held cX11_held 2 (some .long) 1 := ⟨⟨ga_in (List.mem_of_getElem? (i := 89) (by decide +kernel)) rfl, ga_in (List.mem_of_getElem? (i := 1327) (by decide +kernel)) rfl, by decide +kernel, by decide⟩, ga_in (List.mem_of_getElem? (i := 1326) (by decide +kernel)) rfl⟩
theorem kX11_303 : Cond.constantLong RX11 303 (1000000000000) ∈ ga_T := ga_in (List.mem_of_getElem? (i := 1328) (by decide +kernel)) rfl
theorem kX11_305 : Cond.constantLong RX11 305 (-1000000000000) ∈ ga_T := ga_in (List.mem_of_getElem? (i := 1329) (by decide +kernel)) rfl
theorem mX11_319 : Cond.methodLink RX11 319 yX11_times ∈ ga_T := ga_in (List.mem_of_getElem? (i := 1330) (by decide +kernel)) rfl
theorem yX11_times_ok : ga_Ys yX11_times cX11_times 8 (some .long) 2 := ⟨⟨ga_in (List.mem_of_getElem? (i := 89) (by decide +kernel)) rfl, ga_in (List.mem_of_getElem? (i := 1332) (by decide +kernel)) rfl, by decide +kernel, by decide⟩, ga_in (List.mem_of_getElem? (i := 1331) (by decide +kernel)) rfl⟩
theorem mL_80 : Cond.methodLink RL 80 yX11_total ∈ ga_T := ga_in (List.mem_of_getElem? (i := 1333) (by decide +kernel)) rfl
theorem yX11_total_ok : ga_Yv yX11_total cX11_total 2 (some .long) 1 := ⟨⟨ga_in (List.mem_of_getElem? (i := 89) (by decide +kernel)) rfl, ga_in (List.mem_of_getElem? (i := 1336) (by decide +kernel)) rfl, by decide +kernel, by decide⟩, ga_in (List.mem_of_getElem? (i := 1334) (by decide +kernel)) rfl, ga_in (List.mem_of_getElem? (i := 1335) (by decide +kernel)) rfl⟩
theorem mX11_331 : Cond.methodLink RX11 331 yX11_totalOf ∈ ga_T := ga_in (List.mem_of_getElem? (i := 1337) (by decide +kernel)) rfl
theorem yX11_totalOf_ok : ga_Yv yX11_totalOf cX11_totalOf 2 (some .long) 1 := ⟨⟨ga_in (List.mem_of_getElem? (i := 89) (by decide +kernel)) rfl, ga_in (List.mem_of_getElem? (i := 1340) (by decide +kernel)) rfl, by decide +kernel, by decide⟩, ga_in (List.mem_of_getElem? (i := 1339) (by decide +kernel)) rfl, ga_in (List.mem_of_getElem? (i := 67) (by decide +kernel)) rfl⟩
theorem mL_84 : Cond.methodLink RL 84 yX11_isOut_ ∈ ga_T := ga_in (List.mem_of_getElem? (i := 1341) (by decide +kernel)) rfl
theorem yX11_isOut__ok : ga_Yv yX11_isOut_ cX11_isOut_ 2 (some .int) 1 := ⟨⟨ga_in (List.mem_of_getElem? (i := 89) (by decide +kernel)) rfl, ga_in (List.mem_of_getElem? (i := 1344) (by decide +kernel)) rfl, by decide +kernel, by decide⟩, ga_in (List.mem_of_getElem? (i := 1342) (by decide +kernel)) rfl, ga_in (List.mem_of_getElem? (i := 1343) (by decide +kernel)) rfl⟩
theorem mL_88 : Cond.methodLink RL 88 yX11_against ∈ ga_T := ga_in (List.mem_of_getElem? (i := 1345) (by decide +kernel)) rfl
theorem yX11_against_ok : ga_Yv yX11_against cX11_against 3 (some .int) 2 := ⟨⟨ga_in (List.mem_of_getElem? (i := 89) (by decide +kernel)) rfl, ga_in (List.mem_of_getElem? (i := 1348) (by decide +kernel)) rfl, by decide +kernel, by decide⟩, ga_in (List.mem_of_getElem? (i := 1346) (by decide +kernel)) rfl, ga_in (List.mem_of_getElem? (i := 1347) (by decide +kernel)) rfl⟩
theorem mX11_335 : Cond.methodLink RX11 335 yX11_reckons ∈ ga_T := ga_in (List.mem_of_getElem? (i := 1349) (by decide +kernel)) rfl
theorem yX11_reckons_ok : ga_Yv yX11_reckons cX11_reckons 3 none 1 := ⟨⟨ga_in (List.mem_of_getElem? (i := 89) (by decide +kernel)) rfl, ga_in (List.mem_of_getElem? (i := 1352) (by decide +kernel)) rfl, by decide +kernel, by decide⟩, ga_in (List.mem_of_getElem? (i := 1351) (by decide +kernel)) rfl, ga_in (List.mem_of_getElem? (i := 68) (by decide +kernel)) rfl⟩
theorem mX11_338 : Cond.methodLink RX11 338 yX11_stand ∈ ga_T := ga_in (List.mem_of_getElem? (i := 1353) (by decide +kernel)) rfl
theorem yX11_stand_ok : ga_Yv yX11_stand cX11_stand 4 (some .int) 2 := ⟨⟨ga_in (List.mem_of_getElem? (i := 89) (by decide +kernel)) rfl, ga_in (List.mem_of_getElem? (i := 1356) (by decide +kernel)) rfl, by decide +kernel, by decide⟩, ga_in (List.mem_of_getElem? (i := 1355) (by decide +kernel)) rfl, ga_in (List.mem_of_getElem? (i := 69) (by decide +kernel)) rfl⟩
theorem mL_92 : Cond.methodLink RL 92 yX11_place ∈ ga_T := ga_in (List.mem_of_getElem? (i := 1357) (by decide +kernel)) rfl
theorem yX11_place_ok : ga_Yv yX11_place cX11_place 2 (some .int) 1 := ⟨⟨ga_in (List.mem_of_getElem? (i := 89) (by decide +kernel)) rfl, ga_in (List.mem_of_getElem? (i := 1360) (by decide +kernel)) rfl, by decide +kernel, by decide⟩, ga_in (List.mem_of_getElem? (i := 1358) (by decide +kernel)) rfl, ga_in (List.mem_of_getElem? (i := 1359) (by decide +kernel)) rfl⟩
theorem mX11_341 : Cond.methodLink RX11 341 yX11_placeOf ∈ ga_T := ga_in (List.mem_of_getElem? (i := 1361) (by decide +kernel)) rfl
theorem yX11_placeOf_ok : ga_Yv yX11_placeOf cX11_placeOf 4 (some .int) 1 := ⟨⟨ga_in (List.mem_of_getElem? (i := 89) (by decide +kernel)) rfl, ga_in (List.mem_of_getElem? (i := 1364) (by decide +kernel)) rfl, by decide +kernel, by decide⟩, ga_in (List.mem_of_getElem? (i := 1363) (by decide +kernel)) rfl, ga_in (List.mem_of_getElem? (i := 70) (by decide +kernel)) rfl⟩
theorem mL_96 : Cond.methodLink RL 96 yX11_team ∈ ga_T := ga_in (List.mem_of_getElem? (i := 1365) (by decide +kernel)) rfl
theorem yX11_team_ok : ga_Yv yX11_team cX11_team 2 (some .long) 1 := ⟨⟨ga_in (List.mem_of_getElem? (i := 89) (by decide +kernel)) rfl, ga_in (List.mem_of_getElem? (i := 1368) (by decide +kernel)) rfl, by decide +kernel, by decide⟩, ga_in (List.mem_of_getElem? (i := 1366) (by decide +kernel)) rfl, ga_in (List.mem_of_getElem? (i := 1367) (by decide +kernel)) rfl⟩
theorem mX11_350 : Cond.methodLink RX11 350 yX11_hasRiders ∈ ga_T := ga_in (List.mem_of_getElem? (i := 1369) (by decide +kernel)) rfl
theorem yX11_hasRiders_ok : ga_Yv yX11_hasRiders cX11_hasRiders 4 (some .boolean) 1 := ⟨⟨ga_in (List.mem_of_getElem? (i := 89) (by decide +kernel)) rfl, ga_in (List.mem_of_getElem? (i := 1372) (by decide +kernel)) rfl, by decide +kernel, by decide⟩, ga_in (List.mem_of_getElem? (i := 1371) (by decide +kernel)) rfl, ga_in (List.mem_of_getElem? (i := 71) (by decide +kernel)) rfl⟩
theorem kX11_353 : Cond.constantLong RX11 353 (-1) ∈ ga_T := ga_in (List.mem_of_getElem? (i := 1373) (by decide +kernel)) rfl
theorem mX11_355 : Cond.methodLink RX11 355 yX11_teamOf ∈ ga_T := ga_in (List.mem_of_getElem? (i := 1374) (by decide +kernel)) rfl
theorem yX11_teamOf_ok : ga_Yv yX11_teamOf cX11_teamOf 2 (some .long) 1 := ⟨⟨ga_in (List.mem_of_getElem? (i := 89) (by decide +kernel)) rfl, ga_in (List.mem_of_getElem? (i := 1377) (by decide +kernel)) rfl, by decide +kernel, by decide⟩, ga_in (List.mem_of_getElem? (i := 1376) (by decide +kernel)) rfl, ga_in (List.mem_of_getElem? (i := 72) (by decide +kernel)) rfl⟩
theorem mX11_347 : Cond.methodLink RX11 347 yX11_least ∈ ga_T := ga_in (List.mem_of_getElem? (i := 1378) (by decide +kernel)) rfl
theorem yX11_least_ok : ga_Yv yX11_least cX11_least 6 (some .long) 2 := ⟨⟨ga_in (List.mem_of_getElem? (i := 89) (by decide +kernel)) rfl, ga_in (List.mem_of_getElem? (i := 1381) (by decide +kernel)) rfl, by decide +kernel, by decide⟩, ga_in (List.mem_of_getElem? (i := 1380) (by decide +kernel)) rfl, ga_in (List.mem_of_getElem? (i := 73) (by decide +kernel)) rfl⟩
theorem kX11_345 : Cond.constantLong RX11 345 (10000) ∈ ga_T := ga_in (List.mem_of_getElem? (i := 1382) (by decide +kernel)) rfl
theorem mL_100 : Cond.methodLink RL 100 yX11_teamPlace ∈ ga_T := ga_in (List.mem_of_getElem? (i := 1383) (by decide +kernel)) rfl
theorem yX11_teamPlace_ok : ga_Yv yX11_teamPlace cX11_teamPlace 5 (some .int) 1 := ⟨⟨ga_in (List.mem_of_getElem? (i := 89) (by decide +kernel)) rfl, ga_in (List.mem_of_getElem? (i := 1386) (by decide +kernel)) rfl, by decide +kernel, by decide⟩, ga_in (List.mem_of_getElem? (i := 1384) (by decide +kernel)) rfl, ga_in (List.mem_of_getElem? (i := 1385) (by decide +kernel)) rfl⟩
theorem mL_104 : Cond.methodLink RL 104 yX11_ring ∈ ga_T := ga_in (List.mem_of_getElem? (i := 1387) (by decide +kernel)) rfl
theorem yX11_ring_ok : ga_Yv yX11_ring cX11_ring 5 (some .int) 1 := ⟨⟨ga_in (List.mem_of_getElem? (i := 89) (by decide +kernel)) rfl, ga_in (List.mem_of_getElem? (i := 1390) (by decide +kernel)) rfl, by decide +kernel, by decide⟩, ga_in (List.mem_of_getElem? (i := 1388) (by decide +kernel)) rfl, ga_in (List.mem_of_getElem? (i := 1389) (by decide +kernel)) rfl⟩
theorem mL_108 : Cond.methodLink RL 108 yX11_since ∈ ga_T := ga_in (List.mem_of_getElem? (i := 1391) (by decide +kernel)) rfl
theorem yX11_since_ok : ga_Yv yX11_since cX11_since 4 (some .int) 1 := ⟨⟨ga_in (List.mem_of_getElem? (i := 89) (by decide +kernel)) rfl, ga_in (List.mem_of_getElem? (i := 1394) (by decide +kernel)) rfl, by decide +kernel, by decide⟩, ga_in (List.mem_of_getElem? (i := 1392) (by decide +kernel)) rfl, ga_in (List.mem_of_getElem? (i := 1393) (by decide +kernel)) rfl⟩
theorem mL_112 : Cond.methodLink RL 112 yX11_all ∈ ga_T := ga_in (List.mem_of_getElem? (i := 1395) (by decide +kernel)) rfl
theorem yX11_all_ok : ga_Yv yX11_all cX11_all 2 (some .int) 1 := ⟨⟨ga_in (List.mem_of_getElem? (i := 89) (by decide +kernel)) rfl, ga_in (List.mem_of_getElem? (i := 1398) (by decide +kernel)) rfl, by decide +kernel, by decide⟩, ga_in (List.mem_of_getElem? (i := 1396) (by decide +kernel)) rfl, ga_in (List.mem_of_getElem? (i := 1397) (by decide +kernel)) rfl⟩
end
