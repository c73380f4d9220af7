section
-- ===== PART A: goes FIRST, ahead of the names: the tables' words, and 'selects' of the private methods out of them =====
/-- a private method of a class that the tables say can be made, by its rows of tables_1 -/
def lw_okq (q : MethodName × Nat) : Prop := (q.1.cls ≠ "java/lang/invoke/MethodHandle" ∧ q.1.cls ≠ "java/lang/invoke/VarHandle") ∧ Cond.instantiable q.1.cls q.2 ∈ tables_1 ∧ Cond.privateMethod q.1 ∈ tables_1 ∧ Cond.instanceMethod q.1 ∈ tables_1
theorem lw_p0 : lw_okq (⟨"BookIndex", "tallyHeadingsByPage", "()V"⟩, 9) := ⟨⟨by decide +kernel, by decide +kernel⟩, List.mem_of_getElem? (i := 13) (by decide +kernel), List.mem_of_getElem? (i := 79) (by decide +kernel), List.mem_of_getElem? (i := 80) (by decide +kernel)⟩
theorem lw_p1 : lw_okq (⟨"BookIndex", "spansAt", "(I)LBookIndex$Spans;"⟩, 9) := ⟨⟨by decide +kernel, by decide +kernel⟩, List.mem_of_getElem? (i := 13) (by decide +kernel), List.mem_of_getElem? (i := 83) (by decide +kernel), List.mem_of_getElem? (i := 84) (by decide +kernel)⟩
theorem lw_p2 : lw_okq (⟨"BookIndex", "isHeading", "(I)Z"⟩, 9) := ⟨⟨by decide +kernel, by decide +kernel⟩, List.mem_of_getElem? (i := 13) (by decide +kernel), List.mem_of_getElem? (i := 87) (by decide +kernel), List.mem_of_getElem? (i := 88) (by decide +kernel)⟩
theorem lw_p3 : lw_okq (⟨"BookIndex", "tallyEnds", "(LBookIndex$Spans;)V"⟩, 9) := ⟨⟨by decide +kernel, by decide +kernel⟩, List.mem_of_getElem? (i := 13) (by decide +kernel), List.mem_of_getElem? (i := 91) (by decide +kernel), List.mem_of_getElem? (i := 92) (by decide +kernel)⟩
theorem lw_p4 : lw_okq (⟨"BookIndex", "tallyAt", "(II)V"⟩, 9) := ⟨⟨by decide +kernel, by decide +kernel⟩, List.mem_of_getElem? (i := 13) (by decide +kernel), List.mem_of_getElem? (i := 103) (by decide +kernel), List.mem_of_getElem? (i := 104) (by decide +kernel)⟩
theorem lw_p5 : lw_okq (⟨"BookIndex", "seeAt", "(I)I"⟩, 9) := ⟨⟨by decide +kernel, by decide +kernel⟩, List.mem_of_getElem? (i := 13) (by decide +kernel), List.mem_of_getElem? (i := 119) (by decide +kernel), List.mem_of_getElem? (i := 120) (by decide +kernel)⟩
theorem lw_p6 : lw_okq (⟨"BookIndex", "endOfSees", "(I)I"⟩, 9) := ⟨⟨by decide +kernel, by decide +kernel⟩, List.mem_of_getElem? (i := 13) (by decide +kernel), List.mem_of_getElem? (i := 123) (by decide +kernel), List.mem_of_getElem? (i := 124) (by decide +kernel)⟩
theorem lw_p7 : lw_okq (⟨"BookIndex", "isVainEnd", "(I)Z"⟩, 9) := ⟨⟨by decide +kernel, by decide +kernel⟩, List.mem_of_getElem? (i := 13) (by decide +kernel), List.mem_of_getElem? (i := 127) (by decide +kernel), List.mem_of_getElem? (i := 128) (by decide +kernel)⟩
theorem lw_p8 : lw_okq (⟨"BookIndex", "oneStepFrom", "(I)I"⟩, 9) := ⟨⟨by decide +kernel, by decide +kernel⟩, List.mem_of_getElem? (i := 13) (by decide +kernel), List.mem_of_getElem? (i := 135) (by decide +kernel), List.mem_of_getElem? (i := 136) (by decide +kernel)⟩
theorem lw_p9 : lw_okq (⟨"BookIndex", "digestWithHeading", "(JI)J"⟩, 9) := ⟨⟨by decide +kernel, by decide +kernel⟩, List.mem_of_getElem? (i := 13) (by decide +kernel), List.mem_of_getElem? (i := 171) (by decide +kernel), List.mem_of_getElem? (i := 172) (by decide +kernel)⟩
theorem lw_p10 : lw_okq (⟨"BookIndex", "countSeeAlsos", "(I)I"⟩, 9) := ⟨⟨by decide +kernel, by decide +kernel⟩, List.mem_of_getElem? (i := 13) (by decide +kernel), List.mem_of_getElem? (i := 175) (by decide +kernel), List.mem_of_getElem? (i := 176) (by decide +kernel)⟩
theorem lw_p11 : lw_okq (⟨"BookIndex", "countReached", "(I)I"⟩, 9) := ⟨⟨by decide +kernel, by decide +kernel⟩, List.mem_of_getElem? (i := 13) (by decide +kernel), List.mem_of_getElem? (i := 179) (by decide +kernel), List.mem_of_getElem? (i := 180) (by decide +kernel)⟩
theorem lw_p12 : lw_okq (⟨"BookIndex", "allStepsFrom", "(I)I"⟩, 9) := ⟨⟨by decide +kernel, by decide +kernel⟩, List.mem_of_getElem? (i := 13) (by decide +kernel), List.mem_of_getElem? (i := 183) (by decide +kernel), List.mem_of_getElem? (i := 184) (by decide +kernel)⟩
theorem lw_p13 : lw_okq (⟨"BookIndex", "comesBack", "(I)Z"⟩, 9) := ⟨⟨by decide +kernel, by decide +kernel⟩, List.mem_of_getElem? (i := 13) (by decide +kernel), List.mem_of_getElem? (i := 187) (by decide +kernel), List.mem_of_getElem? (i := 188) (by decide +kernel)⟩
theorem lw_p14 : lw_okq (⟨"BookIndex", "nearestOther", "(I)I"⟩, 9) := ⟨⟨by decide +kernel, by decide +kernel⟩, List.mem_of_getElem? (i := 13) (by decide +kernel), List.mem_of_getElem? (i := 191) (by decide +kernel), List.mem_of_getElem? (i := 192) (by decide +kernel)⟩
theorem lw_p15 : lw_okq (⟨"java/lang/Throwable", "fillInStackTrace", "(I)Ljava/lang/Throwable;"⟩, 6) := ⟨⟨by decide +kernel, by decide +kernel⟩, List.mem_of_getElem? (i := 251) (by decide +kernel), List.mem_of_getElem? (i := 249) (by decide +kernel), List.mem_of_getElem? (i := 250) (by decide +kernel)⟩
def lw_privs_1 : List (MethodName × Nat) := [(⟨"BookIndex", "tallyHeadingsByPage", "()V"⟩, 9), (⟨"BookIndex", "spansAt", "(I)LBookIndex$Spans;"⟩, 9), (⟨"BookIndex", "isHeading", "(I)Z"⟩, 9), (⟨"BookIndex", "tallyEnds", "(LBookIndex$Spans;)V"⟩, 9), (⟨"BookIndex", "tallyAt", "(II)V"⟩, 9), (⟨"BookIndex", "seeAt", "(I)I"⟩, 9), (⟨"BookIndex", "endOfSees", "(I)I"⟩, 9), (⟨"BookIndex", "isVainEnd", "(I)Z"⟩, 9), (⟨"BookIndex", "oneStepFrom", "(I)I"⟩, 9), (⟨"BookIndex", "digestWithHeading", "(JI)J"⟩, 9), (⟨"BookIndex", "countSeeAlsos", "(I)I"⟩, 9), (⟨"BookIndex", "countReached", "(I)I"⟩, 9), (⟨"BookIndex", "allStepsFrom", "(I)I"⟩, 9), (⟨"BookIndex", "comesBack", "(I)Z"⟩, 9), (⟨"BookIndex", "nearestOther", "(I)I"⟩, 9), (⟨"java/lang/Throwable", "fillInStackTrace", "(I)Ljava/lang/Throwable;"⟩, 6)]
theorem lw_r1 : ∀ q ∈ lw_privs_1, lw_okq q := List.forall_mem_cons.mpr ⟨lw_p0, List.forall_mem_cons.mpr ⟨lw_p1, List.forall_mem_cons.mpr ⟨lw_p2, List.forall_mem_cons.mpr ⟨lw_p3, List.forall_mem_cons.mpr ⟨lw_p4, List.forall_mem_cons.mpr ⟨lw_p5, List.forall_mem_cons.mpr ⟨lw_p6, List.forall_mem_cons.mpr ⟨lw_p7, List.forall_mem_cons.mpr ⟨lw_p8, List.forall_mem_cons.mpr ⟨lw_p9, List.forall_mem_cons.mpr ⟨lw_p10, List.forall_mem_cons.mpr ⟨lw_p11, List.forall_mem_cons.mpr ⟨lw_p12, List.forall_mem_cons.mpr ⟨lw_p13, List.forall_mem_cons.mpr ⟨lw_p14, List.forall_mem_cons.mpr ⟨lw_p15, fun _ h => absurd h List.not_mem_nil⟩⟩⟩⟩⟩⟩⟩⟩⟩⟩⟩⟩⟩⟩⟩⟩
theorem lw_p16 : lw_okq (⟨"BookIndex", "needHeading", "(I)V"⟩, 9) := ⟨⟨by decide +kernel, by decide +kernel⟩, List.mem_of_getElem? (i := 13) (by decide +kernel), List.mem_of_getElem? (i := 290) (by decide +kernel), List.mem_of_getElem? (i := 291) (by decide +kernel)⟩
theorem lw_p17 : lw_okq (⟨"BookIndex", "needPages", "(II)V"⟩, 9) := ⟨⟨by decide +kernel, by decide +kernel⟩, List.mem_of_getElem? (i := 13) (by decide +kernel), List.mem_of_getElem? (i := 310) (by decide +kernel), List.mem_of_getElem? (i := 311) (by decide +kernel)⟩
theorem lw_p18 : lw_okq (⟨"BookIndex$Spans", "append", "(III)V"⟩, 3) := ⟨⟨by decide +kernel, by decide +kernel⟩, List.mem_of_getElem? (i := 22) (by decide +kernel), List.mem_of_getElem? (i := 335) (by decide +kernel), List.mem_of_getElem? (i := 336) (by decide +kernel)⟩
theorem lw_p19 : lw_okq (⟨"BookIndex", "needRoomForMade", "()V"⟩, 9) := ⟨⟨by decide +kernel, by decide +kernel⟩, List.mem_of_getElem? (i := 13) (by decide +kernel), List.mem_of_getElem? (i := 345) (by decide +kernel), List.mem_of_getElem? (i := 346) (by decide +kernel)⟩
theorem lw_p20 : lw_okq (⟨"BookIndex$Spans", "appendUnlessEmpty", "(II)V"⟩, 3) := ⟨⟨by decide +kernel, by decide +kernel⟩, List.mem_of_getElem? (i := 22) (by decide +kernel), List.mem_of_getElem? (i := 369) (by decide +kernel), List.mem_of_getElem? (i := 370) (by decide +kernel)⟩
theorem lw_p21 : lw_okq (⟨"BookIndex", "needTwo", "(II)V"⟩, 9) := ⟨⟨by decide +kernel, by decide +kernel⟩, List.mem_of_getElem? (i := 13) (by decide +kernel), List.mem_of_getElem? (i := 380) (by decide +kernel), List.mem_of_getElem? (i := 381) (by decide +kernel)⟩
theorem lw_p22 : lw_okq (⟨"BookIndex", "needNoPages", "(I)V"⟩, 9) := ⟨⟨by decide +kernel, by decide +kernel⟩, List.mem_of_getElem? (i := 13) (by decide +kernel), List.mem_of_getElem? (i := 385) (by decide +kernel), List.mem_of_getElem? (i := 386) (by decide +kernel)⟩
theorem lw_p23 : lw_okq (⟨"BookIndex", "needPage", "(I)V"⟩, 9) := ⟨⟨by decide +kernel, by decide +kernel⟩, List.mem_of_getElem? (i := 13) (by decide +kernel), List.mem_of_getElem? (i := 419) (by decide +kernel), List.mem_of_getElem? (i := 420) (by decide +kernel)⟩
theorem lw_p24 : lw_okq (⟨"BookIndex", "countHeadingsOn", "(I)I"⟩, 9) := ⟨⟨by decide +kernel, by decide +kernel⟩, List.mem_of_getElem? (i := 13) (by decide +kernel), List.mem_of_getElem? (i := 425) (by decide +kernel), List.mem_of_getElem? (i := 426) (by decide +kernel)⟩
theorem lw_p25 : lw_okq (⟨"BookIndex", "needSpan", "(II)V"⟩, 9) := ⟨⟨by decide +kernel, by decide +kernel⟩, List.mem_of_getElem? (i := 13) (by decide +kernel), List.mem_of_getElem? (i := 451) (by decide +kernel), List.mem_of_getElem? (i := 452) (by decide +kernel)⟩
theorem lw_p26 : lw_okq (⟨"BookIndexModel", "no", "(I)I"⟩, 6) := ⟨⟨by decide +kernel, by decide +kernel⟩, List.mem_of_getElem? (i := 556) (by decide +kernel), List.mem_of_getElem? (i := 590) (by decide +kernel), List.mem_of_getElem? (i := 591) (by decide +kernel)⟩
theorem lw_p27 : lw_okq (⟨"BookIndexModel", "isHeading", "(I)Z"⟩, 6) := ⟨⟨by decide +kernel, by decide +kernel⟩, List.mem_of_getElem? (i := 556) (by decide +kernel), List.mem_of_getElem? (i := 598) (by decide +kernel), List.mem_of_getElem? (i := 599) (by decide +kernel)⟩
theorem lw_p28 : lw_okq (⟨"BookIndexModel", "arePages", "(II)Z"⟩, 6) := ⟨⟨by decide +kernel, by decide +kernel⟩, List.mem_of_getElem? (i := 556) (by decide +kernel), List.mem_of_getElem? (i := 605) (by decide +kernel), List.mem_of_getElem? (i := 606) (by decide +kernel)⟩
theorem lw_p29 : lw_okq (⟨"BookIndexModel", "spansWith", "(IIIZ)I"⟩, 6) := ⟨⟨by decide +kernel, by decide +kernel⟩, List.mem_of_getElem? (i := 556) (by decide +kernel), List.mem_of_getElem? (i := 609) (by decide +kernel), List.mem_of_getElem? (i := 610) (by decide +kernel)⟩
theorem lw_p30 : lw_okq (⟨"BookIndexModel", "has", "(II)Z"⟩, 6) := ⟨⟨by decide +kernel, by decide +kernel⟩, List.mem_of_getElem? (i := 556) (by decide +kernel), List.mem_of_getElem? (i := 613) (by decide +kernel), List.mem_of_getElem? (i := 614) (by decide +kernel)⟩
theorem lw_p31 : lw_okq (⟨"BookIndexModel", "put", "(IIIZ)V"⟩, 6) := ⟨⟨by decide +kernel, by decide +kernel⟩, List.mem_of_getElem? (i := 556) (by decide +kernel), List.mem_of_getElem? (i := 617) (by decide +kernel), List.mem_of_getElem? (i := 618) (by decide +kernel)⟩
def lw_privs_2 : List (MethodName × Nat) := [(⟨"BookIndex", "needHeading", "(I)V"⟩, 9), (⟨"BookIndex", "needPages", "(II)V"⟩, 9), (⟨"BookIndex$Spans", "append", "(III)V"⟩, 3), (⟨"BookIndex", "needRoomForMade", "()V"⟩, 9), (⟨"BookIndex$Spans", "appendUnlessEmpty", "(II)V"⟩, 3), (⟨"BookIndex", "needTwo", "(II)V"⟩, 9), (⟨"BookIndex", "needNoPages", "(I)V"⟩, 9), (⟨"BookIndex", "needPage", "(I)V"⟩, 9), (⟨"BookIndex", "countHeadingsOn", "(I)I"⟩, 9), (⟨"BookIndex", "needSpan", "(II)V"⟩, 9), (⟨"BookIndexModel", "no", "(I)I"⟩, 6), (⟨"BookIndexModel", "isHeading", "(I)Z"⟩, 6), (⟨"BookIndexModel", "arePages", "(II)Z"⟩, 6), (⟨"BookIndexModel", "spansWith", "(IIIZ)I"⟩, 6), (⟨"BookIndexModel", "has", "(II)Z"⟩, 6), (⟨"BookIndexModel", "put", "(IIIZ)V"⟩, 6)]
theorem lw_r2 : ∀ q ∈ lw_privs_2, lw_okq q := List.forall_mem_cons.mpr ⟨lw_p16, List.forall_mem_cons.mpr ⟨lw_p17, List.forall_mem_cons.mpr ⟨lw_p18, List.forall_mem_cons.mpr ⟨lw_p19, List.forall_mem_cons.mpr ⟨lw_p20, List.forall_mem_cons.mpr ⟨lw_p21, List.forall_mem_cons.mpr ⟨lw_p22, List.forall_mem_cons.mpr ⟨lw_p23, List.forall_mem_cons.mpr ⟨lw_p24, List.forall_mem_cons.mpr ⟨lw_p25, List.forall_mem_cons.mpr ⟨lw_p26, List.forall_mem_cons.mpr ⟨lw_p27, List.forall_mem_cons.mpr ⟨lw_p28, List.forall_mem_cons.mpr ⟨lw_p29, List.forall_mem_cons.mpr ⟨lw_p30, List.forall_mem_cons.mpr ⟨lw_p31, fun _ h => absurd h List.not_mem_nil⟩⟩⟩⟩⟩⟩⟩⟩⟩⟩⟩⟩⟩⟩⟩⟩
theorem lw_p32 : lw_okq (⟨"BookIndexModel", "let", "(IIZ)V"⟩, 6) := ⟨⟨by decide +kernel, by decide +kernel⟩, List.mem_of_getElem? (i := 556) (by decide +kernel), List.mem_of_getElem? (i := 621) (by decide +kernel), List.mem_of_getElem? (i := 622) (by decide +kernel)⟩
theorem lw_p33 : lw_okq (⟨"BookIndexModel", "spans", "(III)I"⟩, 6) := ⟨⟨by decide +kernel, by decide +kernel⟩, List.mem_of_getElem? (i := 556) (by decide +kernel), List.mem_of_getElem? (i := 625) (by decide +kernel), List.mem_of_getElem? (i := 626) (by decide +kernel)⟩
theorem lw_p34 : lw_okq (⟨"BookIndexModel", "many", "(I)I"⟩, 6) := ⟨⟨by decide +kernel, by decide +kernel⟩, List.mem_of_getElem? (i := 556) (by decide +kernel), List.mem_of_getElem? (i := 633) (by decide +kernel), List.mem_of_getElem? (i := 634) (by decide +kernel)⟩
theorem lw_p35 : lw_okq (⟨"BookIndexModel", "isPage", "(I)Z"⟩, 6) := ⟨⟨by decide +kernel, by decide +kernel⟩, List.mem_of_getElem? (i := 556) (by decide +kernel), List.mem_of_getElem? (i := 654) (by decide +kernel), List.mem_of_getElem? (i := 655) (by decide +kernel)⟩
theorem lw_p36 : lw_okq (⟨"BookIndexModel", "onPage", "(I)I"⟩, 6) := ⟨⟨by decide +kernel, by decide +kernel⟩, List.mem_of_getElem? (i := 556) (by decide +kernel), List.mem_of_getElem? (i := 658) (by decide +kernel), List.mem_of_getElem? (i := 659) (by decide +kernel)⟩
theorem lw_p37 : lw_okq (⟨"BookIndexModel", "ok", "(I)I"⟩, 6) := ⟨⟨by decide +kernel, by decide +kernel⟩, List.mem_of_getElem? (i := 556) (by decide +kernel), List.mem_of_getElem? (i := 666) (by decide +kernel), List.mem_of_getElem? (i := 667) (by decide +kernel)⟩
theorem lw_p38 : lw_okq (⟨"BookIndexModel", "isSpan", "(II)Z"⟩, 6) := ⟨⟨by decide +kernel, by decide +kernel⟩, List.mem_of_getElem? (i := 556) (by decide +kernel), List.mem_of_getElem? (i := 682) (by decide +kernel), List.mem_of_getElem? (i := 683) (by decide +kernel)⟩
theorem lw_p39 : lw_okq (⟨"BookIndexModel", "begins", "(II)I"⟩, 6) := ⟨⟨by decide +kernel, by decide +kernel⟩, List.mem_of_getElem? (i := 556) (by decide +kernel), List.mem_of_getElem? (i := 686) (by decide +kernel), List.mem_of_getElem? (i := 687) (by decide +kernel)⟩
theorem lw_p40 : lw_okq (⟨"BookIndexModel", "ends", "(II)I"⟩, 6) := ⟨⟨by decide +kernel, by decide +kernel⟩, List.mem_of_getElem? (i := 556) (by decide +kernel), List.mem_of_getElem? (i := 694) (by decide +kernel), List.mem_of_getElem? (i := 695) (by decide +kernel)⟩
theorem lw_p41 : lw_okq (⟨"BookIndexModel", "isNot", "(I)Z"⟩, 6) := ⟨⟨by decide +kernel, by decide +kernel⟩, List.mem_of_getElem? (i := 556) (by decide +kernel), List.mem_of_getElem? (i := 714) (by decide +kernel), List.mem_of_getElem? (i := 715) (by decide +kernel)⟩
theorem lw_p42 : lw_okq (⟨"BookIndexModel", "bare", "()I"⟩, 6) := ⟨⟨by decide +kernel, by decide +kernel⟩, List.mem_of_getElem? (i := 556) (by decide +kernel), List.mem_of_getElem? (i := 726) (by decide +kernel), List.mem_of_getElem? (i := 727) (by decide +kernel)⟩
theorem lw_p43 : lw_okq (⟨"BookIndexModel", "fullest", "()I"⟩, 6) := ⟨⟨by decide +kernel, by decide +kernel⟩, List.mem_of_getElem? (i := 556) (by decide +kernel), List.mem_of_getElem? (i := 734) (by decide +kernel), List.mem_of_getElem? (i := 735) (by decide +kernel)⟩
theorem lw_p44 : lw_okq (⟨"BookIndexModel", "end", "(I)I"⟩, 6) := ⟨⟨by decide +kernel, by decide +kernel⟩, List.mem_of_getElem? (i := 556) (by decide +kernel), List.mem_of_getElem? (i := 742) (by decide +kernel), List.mem_of_getElem? (i := 743) (by decide +kernel)⟩
theorem lw_p45 : lw_okq (⟨"BookIndexModel", "vain", "()I"⟩, 6) := ⟨⟨by decide +kernel, by decide +kernel⟩, List.mem_of_getElem? (i := 556) (by decide +kernel), List.mem_of_getElem? (i := 750) (by decide +kernel), List.mem_of_getElem? (i := 751) (by decide +kernel)⟩
theorem lw_p46 : lw_okq (⟨"BookIndexModel", "far", "(II)I"⟩, 6) := ⟨⟨by decide +kernel, by decide +kernel⟩, List.mem_of_getElem? (i := 556) (by decide +kernel), List.mem_of_getElem? (i := 758) (by decide +kernel), List.mem_of_getElem? (i := 759) (by decide +kernel)⟩
theorem lw_p47 : lw_okq (⟨"BookIndexModel", "step", "(I)I"⟩, 6) := ⟨⟨by decide +kernel, by decide +kernel⟩, List.mem_of_getElem? (i := 556) (by decide +kernel), List.mem_of_getElem? (i := 762) (by decide +kernel), List.mem_of_getElem? (i := 763) (by decide +kernel)⟩
def lw_privs_3 : List (MethodName × Nat) := [(⟨"BookIndexModel", "let", "(IIZ)V"⟩, 6), (⟨"BookIndexModel", "spans", "(III)I"⟩, 6), (⟨"BookIndexModel", "many", "(I)I"⟩, 6), (⟨"BookIndexModel", "isPage", "(I)Z"⟩, 6), (⟨"BookIndexModel", "onPage", "(I)I"⟩, 6), (⟨"BookIndexModel", "ok", "(I)I"⟩, 6), (⟨"BookIndexModel", "isSpan", "(II)Z"⟩, 6), (⟨"BookIndexModel", "begins", "(II)I"⟩, 6), (⟨"BookIndexModel", "ends", "(II)I"⟩, 6), (⟨"BookIndexModel", "isNot", "(I)Z"⟩, 6), (⟨"BookIndexModel", "bare", "()I"⟩, 6), (⟨"BookIndexModel", "fullest", "()I"⟩, 6), (⟨"BookIndexModel", "end", "(I)I"⟩, 6), (⟨"BookIndexModel", "vain", "()I"⟩, 6), (⟨"BookIndexModel", "far", "(II)I"⟩, 6), (⟨"BookIndexModel", "step", "(I)I"⟩, 6)]
theorem lw_r3 : ∀ q ∈ lw_privs_3, lw_okq q := List.forall_mem_cons.mpr ⟨lw_p32, List.forall_mem_cons.mpr ⟨lw_p33, List.forall_mem_cons.mpr ⟨lw_p34, List.forall_mem_cons.mpr ⟨lw_p35, List.forall_mem_cons.mpr ⟨lw_p36, List.forall_mem_cons.mpr ⟨lw_p37, List.forall_mem_cons.mpr ⟨lw_p38, List.forall_mem_cons.mpr ⟨lw_p39, List.forall_mem_cons.mpr ⟨lw_p40, List.forall_mem_cons.mpr ⟨lw_p41, List.forall_mem_cons.mpr ⟨lw_p42, List.forall_mem_cons.mpr ⟨lw_p43, List.forall_mem_cons.mpr ⟨lw_p44, List.forall_mem_cons.mpr ⟨lw_p45, List.forall_mem_cons.mpr ⟨lw_p46, List.forall_mem_cons.mpr ⟨lw_p47, fun _ h => absurd h List.not_mem_nil⟩⟩⟩⟩⟩⟩⟩⟩⟩⟩⟩⟩⟩⟩⟩⟩
theorem lw_p48 : lw_okq (⟨"BookIndexModel", "all", "(I)I"⟩, 6) := ⟨⟨by decide +kernel, by decide +kernel⟩, List.mem_of_getElem? (i := 556) (by decide +kernel), List.mem_of_getElem? (i := 770) (by decide +kernel), List.mem_of_getElem? (i := 771) (by decide +kernel)⟩
theorem lw_p49 : lw_okq (⟨"BookIndexModel", "rings", "(I)Z"⟩, 6) := ⟨⟨by decide +kernel, by decide +kernel⟩, List.mem_of_getElem? (i := 556) (by decide +kernel), List.mem_of_getElem? (i := 778) (by decide +kernel), List.mem_of_getElem? (i := 779) (by decide +kernel)⟩
theorem lw_p50 : lw_okq (⟨"BookIndexModel", "alone", "()I"⟩, 6) := ⟨⟨by decide +kernel, by decide +kernel⟩, List.mem_of_getElem? (i := 556) (by decide +kernel), List.mem_of_getElem? (i := 786) (by decide +kernel), List.mem_of_getElem? (i := 787) (by decide +kernel)⟩
theorem lw_p51 : lw_okq (⟨"BookIndexModel", "common", "(II)I"⟩, 6) := ⟨⟨by decide +kernel, by decide +kernel⟩, List.mem_of_getElem? (i := 556) (by decide +kernel), List.mem_of_getElem? (i := 798) (by decide +kernel), List.mem_of_getElem? (i := 799) (by decide +kernel)⟩
theorem lw_p52 : lw_okq (⟨"BookIndexModel", "near", "(I)I"⟩, 6) := ⟨⟨by decide +kernel, by decide +kernel⟩, List.mem_of_getElem? (i := 556) (by decide +kernel), List.mem_of_getElem? (i := 806) (by decide +kernel), List.mem_of_getElem? (i := 807) (by decide +kernel)⟩
def lw_privs_4 : List (MethodName × Nat) := [(⟨"BookIndexModel", "all", "(I)I"⟩, 6), (⟨"BookIndexModel", "rings", "(I)Z"⟩, 6), (⟨"BookIndexModel", "alone", "()I"⟩, 6), (⟨"BookIndexModel", "common", "(II)I"⟩, 6), (⟨"BookIndexModel", "near", "(I)I"⟩, 6)]
theorem lw_r4 : ∀ q ∈ lw_privs_4, lw_okq q := List.forall_mem_cons.mpr ⟨lw_p48, List.forall_mem_cons.mpr ⟨lw_p49, List.forall_mem_cons.mpr ⟨lw_p50, List.forall_mem_cons.mpr ⟨lw_p51, List.forall_mem_cons.mpr ⟨lw_p52, fun _ h => absurd h List.not_mem_nil⟩⟩⟩⟩⟩
def lw_privs : List (MethodName × Nat) := lw_privs_1 ++ (lw_privs_2 ++ (lw_privs_3 ++ (lw_privs_4)))
def lw_tbl : List Cond := k2_sels lw_privs ++ tables_1
theorem lw_privs_ok : ∀ q ∈ lw_privs, lw_okq q := by
  show ∀ q ∈ lw_privs_1 ++ (lw_privs_2 ++ (lw_privs_3 ++ (lw_privs_4))), lw_okq q
  exact List.forall_mem_append.mpr ⟨lw_r1, List.forall_mem_append.mpr ⟨lw_r2, List.forall_mem_append.mpr ⟨lw_r3, lw_r4⟩⟩⟩
/-- the streams that the claim lets the run draw from -/
abbrev lw_cs : List Choice := [Jvm.Choice.named "NaN.bits"]
theorem lw_bits : nanBits ∈ lw_cs := by first | decide | exact List.mem_cons_self | simp [lw_cs, nanBits]
/-! ===== BEGIN words of one list among another's, by their places ===== -/
theorem goodIn_r {big : List Cond} (ws : List Cond) (ps : List Nat) (hp : ws = ps.filterMap (fun i => big[i]?)) (h : ws.all goodWord = true) : GoodIn big ws := by
  intro w hw
  have h1 := List.all_eq_true.mp h w hw
  rw [hp] at hw
  obtain ⟨i, -, hi⟩ := List.mem_filterMap.mp hw
  have hm : w ∈ big := by first | exact List.mem_of_getElem? hi | exact List.getElem?_mem hi
  exact ⟨hm, good_of_word h1⟩
theorem goodIn_app {big a b : List Cond} (ha : GoodIn big a) (hb : GoodIn big b) : GoodIn big (a ++ b) := fun w h => (List.mem_append.mp h).elim (ha w) (hb w)
theorem goodIn_ca {big a b : List Cond} {c : Cond} (ha : GoodIn big (c :: a)) (hb : GoodIn big b) : GoodIn big (c :: (a ++ b)) := fun w h => (List.mem_cons.mp h).elim (fun e => ha w (List.mem_cons.mpr (Or.inl e))) (fun h => (List.mem_append.mp h).elim (fun h => ha w (List.mem_cons.mpr (Or.inr h))) (hb w))
theorem goodIn_sub {big ws : List Cond} (hm : ∀ w ∈ ws, w ∈ big) (h : ws.all goodWord = true) : GoodIn big ws := fun w hw => ⟨hm w hw, good_of_word (List.all_eq_true.mp h w hw)⟩
/-! ===== END ===== -/

/-! ===== BEGIN exceptions that leave a method, and their catching by the caller (launches without stack traces) ===== -/
section VXA
/-! The laws vx_back, vx_callV, vx_callS, vx_callSW, vx_throw0, vx_throwS follow proofs of the library, with one case more: JvmDerived/Free/Laws.lean (Back.of_free), Shelf42/LK1.lean (callV, callS), Shelf/KitTraced.lean (throwNew0V, throwNewS). -/
/-- where a method has thrown q: the class by its name, the cell, what was written, the world -/
def vx_T (XC : String → State → State → Prop) (st : State) (q : Addr) (t : State) (mc ms : Nat) (free : Addr → Prop) : Prop :=
  ∃ (E : String) (ce : Cell) (L : List Loc), XC E st t ∧ t.heap[q]? = some ce ∧ ce.vm = .none ∧ st.vm.findClass E = some ce.cls ∧ st.WarmedH t.vm ∧ st.sameButNew ({ t with vm := st.vm } : State) L mc ms ∧ ∀ z ∈ L, free z.base
def vx_Q (Qc : Array Value → State → Outcome → State → Prop) (XC : String → State → State → Prop) (mc ms : Nat) (free : Addr → Prop) : Array Value → State → Outcome → State → Prop := fun a st o t =>
  (Qc a st o t ∧ ∃ L, FrameEnd st o t L mc ms ∧ ∀ q ∈ L, free q.base) ∨ ∃ q, o = .threw q ∧ vx_T XC st q t mc ms free
/-- a callee that returns or throws -/
def vx_Met (l : Launch) (y : MethodName) (ws : List Cond) (rm : Room) (Pc : Array Value → State → Prop) (Qc : Array Value → State → Outcome → State → Prop) (XC : String → State → State → Prop) (mc ms : Nat) (free : Addr → Prop) : Prop :=
  MetFree l y (headSpec ws rm) Pc (fun _ _ _ _ _ => True) (vx_Q Qc XC mc ms free)
def vx_Post (XC : String → State → State → Prop) (mc ms : Nat) (free : Addr → Prop) : Pt → Array Value → Addr → Pt → Prop := fun A a q B =>
  ∃ (g : JFrame) (mk : MethodId) (t : State) (L : List Loc) (E : String) (ce : Cell), B.U.heap = t.heap ∧ B.U.vm = t.vm ∧ XC E (A.U.calling g mk a) t ∧ t.heap[q]? = some ce ∧ ce.vm = .none ∧ A.U.vm.findClass E = some ce.cls ∧ B.locs = A.locs ++ L ∧ (∀ z ∈ L, free z.base) ∧ B.cells = A.cells + mc ∧ B.slots = A.slots + ms
def vx_Back (l : Launch) (R : Room) (p : Program) (e : Env) (below : List Frame) (s : State) (sargs : Array Value) (y : MethodName) (len W9 : Nat)
    (Pre : Pt → Array Value → Prop) (Post : Pt → Array Value → Option Value → Pt → Prop) (PostX : Pt → Array Value → Addr → Pt → Prop) : Prop :=
  ∀ (m : MethodId) (meth : Method) (c : Code) (A : Pt) (g : JFrame) (ig : Instr) (mk : MethodId) (a : Array Value),
    Stand p l e R s m sargs below meth c A.U A.locs A.cells A.slots → g.method = m → g.locals.size = c.maxLocals → decode c.code g.pc = .ok (ig, len) →
    2 * g.monitorRoom + (g.stack.map fun v => v.category).sum ≤ W9 → A.U.methodNamed? y = some mk → Pre A a →
    (∃ (v : Option Value) (B : Pt), Stand p l e R s m sargs below meth c B.U B.locs B.cells B.slots ∧ Post A a v B ∧
      Steps p.tables e below (doInvoke e (A.U.setTop g) [] mk a).1 (B.U.setTop { g with pc := g.pc + len, stack := v.toList ++ g.stack })) ∨
    (∃ (q : Addr) (B : Pt), Stand p l e R s m sargs below meth c B.U B.locs B.cells B.slots ∧ PostX A a q B ∧
      Steps p.tables e below (doInvoke e (A.U.setTop g) [] mk a).1 ((B.U.setTop g).pushFrame (.throwing q)))
section Payer
variable {l : Launch} {R : Room} {p : Program} {e : Env} {below : List Frame} {s : State} {sargs : Array Value} {y : MethodName} {len W9 : Nat}
theorem vx_back {ws : List Cond} {rm : Room} {Pc : Array Value → State → Prop} {Qc : Array Value → State → Outcome → State → Prop} {XC : String → State → State → Prop} {mc ms : Nat} {free : Addr → Prop} {bytes : ByteArray} {maxL : Nat} {ret : Option FieldType}
    (hM : vx_Met l y ws rm Pc Qc XC mc ms free) (hblind : FrameBlind Pc) (hrc : rm.cells = mc) (hrs : rm.slots = ms)
    (hframes : rm.frames + 1 ≤ R.frames) (hlocals : W9 + (maxL + 11) + rm.locals ≤ R.locals)
    (hws : ∀ w ∈ ws, ∀ a' U, s.WarmedH U.vm → w.before a' U = true) (hcode : Cond.code y bytes maxL ret ∈ ws) (hinit : ∀ a' U, s.WarmedH U.vm → (Cond.initialized y.cls).before a' U = true) :
    vx_Back l R p e below s sargs y len W9 (PreOf R mc ms Pc) (PostOf Qc mc ms free) (vx_Post XC mc ms free) := by
  intro m meth c A g ig mk a X hg hsize hdg hW hn hp
  have h1 : (headSpec ws rm).pre.before a A.U = true := atoms_intro fun w hw => hws w hw _ _ X.warmed
  have h2 : (Cond.code y bytes maxL ret).before a A.U = true := hws _ hcode _ _ X.warmed
  have h3 : (Cond.initialized y.cls).before a A.U = true := hinit _ _ X.warmed
  have h4 : A.cells + (headSpec ws rm).room.cells ≤ R.cells := by rw [show (headSpec ws rm).room.cells = mc from hrc]; exact hp.1
  have h5 : A.slots + (headSpec ws rm).room.slots ≤ R.slots := by rw [show (headSpec ws rm).room.slots = ms from hrs]; exact hp.2.1
  have hPc : Pc a (A.U.calling g mk a) := hblind _ _ _ _ hp.2.2
  obtain ⟨U, Ls, c0, s0⟩ := A
  dsimp only [Pt.U, Pt.locs, Pt.cells, Pt.slots] at h1 h2 h3 h4 h5 X hn hPc ⊢
  obtain ⟨methY, cY, hmY, hcY, -, hlY, -, -, -, -⟩ := Cond.code_spec hn h2
  obtain ⟨kY, hkY, -⟩ := className_of_methodNamed hn
  have hinitY : kY.init = .initialized := Cond.initialized_spec (findClass_of_methodNamed hn) hkY h3
  have h : At U g.method c below := by rw [hg]; exact X.here
  have hlocals9 : W9 + (maxL + 11) + (headSpec ws rm).room.locals ≤ R.locals := hlocals
  have happ : (headSpec ws rm).appliesLoose y e.platform (U.calling g mk a) = true :=
    Spec.appliesLoose_calling (g := g) h hdg hn hkY hinitY
      (X.room_calling (g := g) (R' := (headSpec ws rm).room) hsize hmY hcY hframes (by rw [hlY]; omega) h4 h5) h1
  obtain ⟨mid, hmid⟩ := h.above
  have hfr : (U.setTop g).frames = (.java g :: mid) ++ below := by rw [State.frames_setTop' g h.top, hmid]; rfl
  obtain ⟨o, s₂, hsteps, -, hend, hq⟩ := Steps.callFree hM p X.admits X.cas X.clock (acts := []) hfr happ hPc trivial
  have hq' : vx_Q Qc XC mc ms free a (U.calling g mk a) o s₂ := hq
  rw [State.frames_setTop' g h.top] at hend
  obtain ⟨g₀, hg0⟩ := Option.isSome_iff_exists.mp h.top
  obtain ⟨r, hr⟩ := State.topJava?_eq_some.mp hg0
  have hr' : (({ U with heap := s₂.heap, slotsUsed := s₂.slotsUsed } : State).setVm s₂.vm).frames = .java g₀ :: r := hr
  rcases hq' with ⟨hqc, L, hfe, hL⟩ | ⟨q, rfl, E, ce, L, hx, hce, hcv, hcl, hW₂, hsm, hL⟩
  · obtain ⟨⟨v, rfl⟩, hW₂, e2, q2, q3, q4, q5, q6⟩ := id hfe
    have e3 : s₂ = ({ (U.calling g mk a).setFrames s₂.frames with heap := s₂.heap, slotsUsed := s₂.slotsUsed } : State).setVm s₂.vm := by
      have : s₂ = ({ s₂ with vm := (U.calling g mk a).vm } : State).setVm s₂.vm := rfl
      rw [e2] at this
      exact this
    obtain ⟨c₂, i₂, len₂, hc₂, hd₂, hf₂⟩ := hend
    have hW' : U.WarmedH s₂.vm := hW₂
    have hcc : c₂ = c := by
      have h1 : s₂.code? g.method = U.code? g.method := by
        rw [State.code?_eq, State.code?_eq, hW'.alike.method?]
      exact Option.some.inj (hc₂.symm.trans (h1.trans h.code))
    subst hcc
    have hlen : len₂ = len := by rw [hdg] at hd₂; cases hd₂; rfl
    subst hlen
    have hs₂ : s₂ = (({ U with heap := s₂.heap, slotsUsed := s₂.slotsUsed } : State).setVm s₂.vm).setTop { g with pc := g.pc + len₂, stack := v.toList ++ g.stack } := by
      refine e3.trans ?_
      rw [hf₂, State.calling_eq h.top, State.setFrames_setFrames, State.setTop_of_frames _ hr', hr]
      rfl
    have hsame : U.sameButNew ({ U with heap := s₂.heap, slotsUsed := s₂.slotsUsed } : State) L mc ms := by
      refine ⟨?_, q2, q3, q4, q5, q6⟩
      obtain ⟨t, ht, -⟩ := State.frames_cons hr
      show ({ U with heap := s₂.heap, slotsUsed := s₂.slotsUsed } : State) = { U.setFrames U.frames with heap := s₂.heap, slotsUsed := s₂.slotsUsed }
      rw [State.setFrames_self ht]
    subst hg
    refine Or.inl ⟨v, ⟨(({ U with heap := s₂.heap, slotsUsed := s₂.slotsUsed } : State).setVm s₂.vm), Ls ++ L, c0 + mc, s0 + ms⟩,
      ⟨X.admits, X.cas, X.clock, X.frames, X.room, X.hears, X.method, X.code, (X.here.setHeapUsed s₂.heap s₂.slotsUsed).setVm hW'.alike, X.tail, State.WarmedH.trans X.warmed hW', X.limits, X.bytes, X.same.trans (hsame.setVm s.vm)⟩,
      ⟨g, mk, s₂, L, rfl, rfl, hqc, rfl, hL, rfl, rfl⟩, ?_⟩
    show Steps p.tables e below _ ((({ U with heap := s₂.heap, slotsUsed := s₂.slotsUsed } : State).setVm s₂.vm).setTop { g with pc := g.pc + len₂, stack := v.toList ++ g.stack })
    rw [← hs₂]
    exact hsteps
  · obtain ⟨e2, q2, q3, q4, q5, q6⟩ := id hsm
    have e3 : s₂ = ({ (U.calling g mk a).setFrames s₂.frames with heap := s₂.heap, slotsUsed := s₂.slotsUsed } : State).setVm s₂.vm := by
      have : s₂ = ({ s₂ with vm := (U.calling g mk a).vm } : State).setVm s₂.vm := rfl
      rw [e2] at this
      exact this
    have hf₂ : s₂.frames = .throwing q :: .java g :: U.frames.tail := hend
    have hW' : U.WarmedH s₂.vm := hW₂
    have hs₂ : s₂ = ((({ U with heap := s₂.heap, slotsUsed := s₂.slotsUsed } : State).setVm s₂.vm).setTop g).pushFrame (.throwing q) := by
      refine e3.trans ?_
      rw [hf₂, State.calling_eq h.top, State.setFrames_setFrames, State.pushFrame, State.frames_setTop _ hr', State.setTop_of_frames _ hr', State.setFrames_setFrames, hr]
      rfl
    have hsame : U.sameButNew ({ U with heap := s₂.heap, slotsUsed := s₂.slotsUsed } : State) L mc ms := by
      refine ⟨?_, q2, q3, q4, q5, q6⟩
      obtain ⟨t, ht, -⟩ := State.frames_cons hr
      show ({ U with heap := s₂.heap, slotsUsed := s₂.slotsUsed } : State) = { U.setFrames U.frames with heap := s₂.heap, slotsUsed := s₂.slotsUsed }
      rw [State.setFrames_self ht]
    subst hg
    refine Or.inr ⟨q, ⟨(({ U with heap := s₂.heap, slotsUsed := s₂.slotsUsed } : State).setVm s₂.vm), Ls ++ L, c0 + mc, s0 + ms⟩,
      ⟨X.admits, X.cas, X.clock, X.frames, X.room, X.hears, X.method, X.code, (X.here.setHeapUsed s₂.heap s₂.slotsUsed).setVm hW'.alike, X.tail, State.WarmedH.trans X.warmed hW', X.limits, X.bytes, X.same.trans (hsame.setVm s.vm)⟩,
      ⟨g, mk, s₂, L, E, ce, rfl, rfl, hx, hce, hcv, hcl, rfl, hL, rfl, rfl⟩, ?_⟩
    show Steps p.tables e below _ (((({ U with heap := s₂.heap, slotsUsed := s₂.slotsUsed } : State).setVm s₂.vm).setTop g).pushFrame (.throwing q))
    rw [← hs₂]
    exact hsteps
end Payer
section Calls
variable {p : Program} {l : Launch} {e : Env} {R : Room} {s : State} {m : MethodId} {args : Array Value} {below : List Frame} {meth : Method} {c : Code} {T : State} {locs : List Loc} {cells slots : Nat}
theorem vx_callV (X : Stand p l e R s m args below meth c T locs cells slots) (hexec : p.tables.exec = Jvm.exec) {own C : String} {index : Nat} {y : MethodName} {bytes : ByteArray} {maxL : Nat} {ret : Option FieldType}
    (hown : s.vm.findClass own = some m.cls) (hlink : (Cond.methodLink own index y).before args s = true) (hinst : (Cond.instanceMethod y).before args s = true) (hsel : (Cond.selects C y y).before args s = true)
    (hcode : (Cond.code y bytes maxL ret).before args s = true) (hy : y.cls ≠ "java/lang/invoke/MethodHandle" ∧ y.cls ≠ "java/lang/invoke/VarHandle")
    {W9 : Nat} {Pre : Pt → Array Value → Prop} {Post : Pt → Array Value → Option Value → Pt → Prop} {PostX : Pt → Array Value → Addr → Pt → Prop} (hK : vx_Back l R p e below s args y 3 W9 Pre Post PostX)
    {b : Addr} {cellB : Cell} (hcell : T.heap[b]? = some cellB) (hobj : cellB.vm.isStatics = false) (hcls : s.vm.findClass C = some cellB.cls)
    {g : JFrame} (hg : g.method = m) (hsize : g.locals.size = c.maxLocals) {argsL rest : List Value} (hlen : ∀ sig, parseMethodDescriptor y.desc = some sig → argsL.length = sig.parameters.length)
    (hstack : g.stack = argsL.reverse ++ .ref b :: rest) (hW : 2 * g.monitorRoom + (rest.map fun v => v.category).sum ≤ W9) (hdg : decode c.code g.pc = .ok (.invokevirtual index, 3))
    (hpre : ∀ vm₁, s.WarmedH vm₁ → Pre ⟨T.setVm vm₁, locs, cells, slots⟩ (Value.ref b :: argsL).toArray) :
    (∃ (v : Option Value) (vm₁ : Vm) (B : Pt), s.WarmedH vm₁ ∧ Stand p l e R s m args below meth c B.U B.locs B.cells B.slots ∧ Post ⟨T.setVm vm₁, locs, cells, slots⟩ (Value.ref b :: argsL).toArray v B ∧
      ∀ target, Steps p.tables e below (B.U.setTop { g with pc := g.pc + 3, stack := v.toList ++ rest }) target → Steps p.tables e below (T.setTop g) target) ∨
    (∃ (q : Addr) (vm₁ : Vm) (B : Pt), s.WarmedH vm₁ ∧ Stand p l e R s m args below meth c B.U B.locs B.cells B.slots ∧ PostX ⟨T.setVm vm₁, locs, cells, slots⟩ (Value.ref b :: argsL).toArray q B ∧
      Steps p.tables e below (T.setTop g) ((B.U.setTop { g with stack := rest }).pushFrame (.throwing q))) := by
  obtain ⟨mk, methM, hnamed, hmethM, hstM, habM⟩ := Cond.instanceMethod_spec hinst
  obtain ⟨methM', cM, hmethM', -, -, -, -, -, -, hsigM⟩ := Cond.code_spec hnamed hcode
  cases hmethM.symm.trans hmethM'
  obtain ⟨c2, r2, m2, q1, q2, q3, q4, kP, hkP, hkPi⟩ := Cond.selects_spec hsel
  cases hcls.symm.trans q1
  cases (State.methodFound?_of_named hnamed hy).symm.trans q2
  cases hnamed.symm.trans q3
  have hselP : selectMethod e.platform s.vm cellB.cls mk = .method mk := by rw [Launch.admits_selectMethod X.admits]; exact q4
  obtain ⟨vm₁, X₁, hstep₁⟩ := X.invokevirtual hexec hown hlink hnamed hmethM hstM hkP hkPi hy (a := b) (cell := cellB) hcell
    (fun z h => by rw [h] at hobj; cases hobj) hselP hmethM habM hkP hkPi (g := g) hg (argsL := argsL) (rest := rest) (hlen _ hsigM) hstack hdg
  rcases hK m meth c ⟨T.setVm vm₁, locs, cells, slots⟩ { g with stack := rest } (.invokevirtual index) mk (Value.ref b :: argsL).toArray X₁ hg hsize hdg hW (X₁.named hnamed) (hpre vm₁ X₁.warmed) with ⟨v, B, X', hpost, hsteps⟩ | ⟨q, B, X', hpost, hsteps⟩
  · exact Or.inl ⟨v, vm₁, B, X₁.warmed, X', hpost, fun target h => hstep₁ _ fun acts => by rw [doInvoke_state]; exact hsteps.trans h⟩
  · exact Or.inr ⟨q, vm₁, B, X₁.warmed, X', hpost, hstep₁ _ fun acts => by rw [doInvoke_state]; exact hsteps⟩
theorem vx_callS (X : Stand p l e R s m args below meth c T locs cells slots) (hexec : p.tables.exec = Jvm.exec) {own : String} {index : Nat} {y : MethodName} {bytes : ByteArray} {maxL : Nat} {ret : Option FieldType}
    (hown : s.vm.findClass own = some m.cls) (hlink : (Cond.methodLink own index y).before args s = true) (hstat : (Cond.static y).before args s = true) (hinit : (Cond.initialized y.cls).before args s = true)
    (hcode : (Cond.code y bytes maxL ret).before args s = true) (hy : y.cls ≠ "java/lang/invoke/MethodHandle" ∧ y.cls ≠ "java/lang/invoke/VarHandle")
    {W9 : Nat} {Pre : Pt → Array Value → Prop} {Post : Pt → Array Value → Option Value → Pt → Prop} {PostX : Pt → Array Value → Addr → Pt → Prop} (hK : vx_Back l R p e below s args y 3 W9 Pre Post PostX)
    {g : JFrame} (hg : g.method = m) (hsize : g.locals.size = c.maxLocals) {argsL rest : List Value} (hlen : ∀ sig, parseMethodDescriptor y.desc = some sig → argsL.length = sig.parameters.length)
    (hstack : g.stack = argsL.reverse ++ rest) (hW : 2 * g.monitorRoom + (rest.map fun v => v.category).sum ≤ W9) (hdg : decode c.code g.pc = .ok (.invokestatic index, 3))
    (hpre : ∀ vm₁, s.WarmedH vm₁ → Pre ⟨T.setVm vm₁, locs, cells, slots⟩ argsL.toArray) :
    (∃ (v : Option Value) (vm₁ : Vm) (B : Pt), s.WarmedH vm₁ ∧ Stand p l e R s m args below meth c B.U B.locs B.cells B.slots ∧ Post ⟨T.setVm vm₁, locs, cells, slots⟩ argsL.toArray v B ∧
      ∀ target, Steps p.tables e below (B.U.setTop { g with pc := g.pc + 3, stack := v.toList ++ rest }) target → Steps p.tables e below (T.setTop g) target) ∨
    (∃ (q : Addr) (vm₁ : Vm) (B : Pt), s.WarmedH vm₁ ∧ Stand p l e R s m args below meth c B.U B.locs B.cells B.slots ∧ PostX ⟨T.setVm vm₁, locs, cells, slots⟩ argsL.toArray q B ∧
      Steps p.tables e below (T.setTop g) ((B.U.setTop { g with stack := rest }).pushFrame (.throwing q))) := by
  obtain ⟨mk, hnamed⟩ := Cond.code_named hcode
  obtain ⟨methM, cM, hmethM, -, -, -, -, -, -, hsigM⟩ := Cond.code_spec hnamed hcode
  have hstatic : methM.isStatic = true := Cond.static_spec hnamed hmethM hstat
  obtain ⟨kP, hkP, -⟩ := className_of_methodNamed hnamed
  have hinitP : kP.init = .initialized := Cond.initialized_spec (findClass_of_methodNamed hnamed) hkP hinit
  obtain ⟨vm₁, X₁, hstep₁⟩ := X.invokestatic hexec hown hlink hnamed hmethM hstatic hkP hinitP hy (g := g) hg (argsL := argsL) (rest := rest) (hlen _ hsigM) hstack hdg
  rcases hK m meth c ⟨T.setVm vm₁, locs, cells, slots⟩ { g with stack := rest } (.invokestatic index) mk argsL.toArray X₁ hg hsize hdg hW (X₁.named hnamed) (hpre vm₁ X₁.warmed) with ⟨v, B, X', hpost, hsteps⟩ | ⟨q, B, X', hpost, hsteps⟩
  · exact Or.inl ⟨v, vm₁, B, X₁.warmed, X', hpost, fun target h => hstep₁ _ fun acts => by rw [doInvoke_state]; exact hsteps.trans h⟩
  · exact Or.inr ⟨q, vm₁, B, X₁.warmed, X', hpost, hstep₁ _ fun acts => by rw [doInvoke_state]; exact hsteps⟩
end Calls
theorem vx_cls {s : State} {T : State} {vm₁ : Vm} {E : String} {k : ClassId} (hW : s.WarmedH vm₁) (h : (T.setVm vm₁).vm.findClass E = some k) : s.vm.findClass E = some k := by
  have h1 : vm₁.findClass E = some k := h
  rw [hW.alike.findClass] at h1
  exact h1
/-- the method's frame g, with q thrown over it -/
def vx_W (p : Program) (l : Launch) (e : Env) (R : Room) (s : State) (m : MethodId) (args : Array Value) (below : List Frame) (meth : Method) (c : Code) (H : Heap) (locs : List Loc) (cells slots : Nat) (Q : State → Prop) (g : JFrame) (q : Addr) : Prop :=
  ∀ T : State, T.heap = H → Stand p l e R s m args below meth c T locs cells slots → ∃ t, Steps p.tables e below ((T.setTop g).pushFrame (.throwing q)) t ∧ Q t
def vx_Run (p : Program) (l : Launch) (e : Env) (R : Room) (s : State) (m : MethodId) (args : Array Value) (below : List Frame) (meth : Method) (c : Code) (H : Heap) (locs : List Loc) (cells slots mc ms : Nat) (g : JFrame) (rest : List Value) (Qa : State → Outcome → State → Prop) (XC : String → State → State → Prop) (free : Addr → Prop) : Prop :=
  ∀ T : State, T.heap = H → Stand p l e R s m args below meth c T locs cells slots →
    (∃ (v : Option Value) (st₀ t T' : State) (L : List Loc), st₀.heap = H ∧ Stand p l e R s m args below meth c T' (locs ++ L) (cells + mc) (slots + ms) ∧ (∀ q ∈ L, free q.base) ∧ T'.heap = t.heap ∧ T'.vm = t.vm ∧ Qa st₀ (.returned v) t ∧
      Goes p e below T g T' { g with pc := g.pc + 3, stack := v.toList ++ rest }) ∨
    (∃ (q : Addr) (st₀ t T' : State) (L : List Loc) (E : String) (ce : Cell), st₀.heap = H ∧ Stand p l e R s m args below meth c T' (locs ++ L) (cells + mc) (slots + ms) ∧ (∀ z ∈ L, free z.base) ∧ T'.heap = t.heap ∧ T'.vm = t.vm ∧ XC E st₀ t ∧ t.heap[q]? = some ce ∧ ce.vm = .none ∧ s.vm.findClass E = some ce.cls ∧
      Steps p.tables e below (T.setTop g) ((T'.setTop { g with stack := rest }).pushFrame (.throwing q)))
def vx_X {S : Type} (px : S → Prop) (B : String → S → State → Prop) (A : Nat → Prop) : String → State → State → Prop := fun E st t => ∃ u : S, px u ∧ B E u t ∧ va_F A st t
section Runs
variable {p : Program} {l : Launch} {e : Env} {R : Room} {s : State} {m : MethodId} {args : Array Value} {below : List Frame} {meth : Method} {c : Code} {H : Heap} {locs : List Loc} {cells slots : Nat}
variable {y : MethodName} {bytes cc : ByteArray} {maxL nL mc ms n index : Nat} {ret : Option FieldType} {ws : List Cond} {rm : Room} {Pc : Array Value → State → Prop} {Qc : Array Value → State → Outcome → State → Prop} {XC : String → State → State → Prop} {free : Addr → Prop} {Ts : List Cond} {own C : String} {b : Addr} {As rest : List Value} {g : JFrame}
theorem vx_callBack (cb : CallB R s args own index y bytes maxL ret ws rm mc ms n) (hM : vx_Met l y ws rm Pc Qc XC mc ms free) (hbl : FrameBlind Pc) : vx_Back l R p e below s args y 3 8 (PreOf R mc ms Pc) (PostOf Qc mc ms free) (vx_Post XC mc ms free) := by
  obtain ⟨hrc, hrs, hfr, hlo, hws, hcw, -, hini, -⟩ := cb
  exact vx_back (bytes := bytes) (maxL := maxL) (ret := ret) hM hbl hrc hrs hfr hlo hws hcw (fun a' U hW => word_at hW (Or.inl (by first | rfl | simp [Cond.onTables, Cond.keeps, Cond.steady])) hini)
theorem vx_runV (S : CallFix p m c cc nL s args Ts own) (hM : vx_Met l y ws rm Pc Qc XC mc ms free) (cw : CallW R s args own C index y bytes maxL ret ws rm mc ms n) (hp : PreV s H C b Pc As)
    (hg : g.method = m) (hn : As.length = n) (hsize : g.locals.size = nL) (hstack : g.stack = As.reverse ++ .ref b :: rest) (hW : 2 * g.monitorRoom + (rest.map fun v => v.category).sum ≤ 8) (hdg : decode cc g.pc = .ok (.invokevirtual index, 3)) (hf : cells + mc ≤ R.cells ∧ slots + ms ≤ R.slots) :
    vx_Run p l e R s m args below meth c H locs cells slots mc ms g rest (Qc (Value.ref b :: As).toArray) XC free := by
  have hK : vx_Back l R p e below s args y 3 8 (PreOf R mc ms Pc) (PostOf Qc mc ms free) (vx_Post XC mc ms free) := vx_callBack cw.1 hM hp.1
  obtain ⟨⟨-, -, -, -, -, -, hcode, -, hy, hlen, hl⟩, hin, hse⟩ := cw
  obtain ⟨hx, hb, hml, ho, -⟩ := S
  obtain ⟨-, ⟨cellB, hcB, hoB, hclB⟩, hPc⟩ := hp
  intro T hT X
  rcases vx_callV X hx (C := C) (bytes := bytes) (maxL := maxL) (ret := ret) ho hl hin hse hcode hy hK (by rw [hT]; exact hcB) hoB hclB hg (hsize.trans hml.symm) (argsL := As) (rest := rest) (fun sig h => hn.trans (hlen sig h)) hstack hW (by rw [hb]; exact hdg)
    (fun vm₁ hW₁ => ⟨hf.1, hf.2, hPc (T.setVm vm₁) hT hW₁⟩) with ⟨v, vm₁, ⟨U', l2, c2, s2⟩, hW₁, X', ⟨g', mk, t, L, e1, e2, hq, h1, hL, h2, h3⟩, st⟩ | ⟨q, vm₁, ⟨U', l2, c2, s2⟩, hW₁, X', ⟨g', mk, t, L, E, ce, e1, e2, hq, hce, hcv, hcl, h1, hL, h2, h3⟩, st⟩
  · dsimp only [Pt.U, Pt.locs, Pt.cells, Pt.slots] at X' e1 e2 h1 h2 h3 st
    subst h1; subst h2; subst h3
    exact Or.inl ⟨v, (T.setVm vm₁).calling g' mk (Value.ref b :: As).toArray, t, U', L, hT, X', hL, e1, e2, hq, st⟩
  · dsimp only [Pt.U, Pt.locs, Pt.cells, Pt.slots] at X' e1 e2 h1 h2 h3 st hcl
    subst h1; subst h2; subst h3
    exact Or.inr ⟨q, (T.setVm vm₁).calling g' mk (Value.ref b :: As).toArray, t, U', L, E, ce, hT, X', hL, e1, e2, hq, hce, hcv, vx_cls hW₁ hcl, st⟩
theorem vx_runS (S : CallFix p m c cc nL s args Ts own) (hM : vx_Met l y ws rm Pc Qc XC mc ms free) (cw : CallB R s args own index y bytes maxL ret ws rm mc ms n ∧ (Cond.static y).before args s = true) (hp : PreS s H Pc As)
    (hg : g.method = m) (hn : As.length = n) (hsize : g.locals.size = nL) (hstack : g.stack = As.reverse ++ rest) (hW : 2 * g.monitorRoom + (rest.map fun v => v.category).sum ≤ 8) (hdg : decode cc g.pc = .ok (.invokestatic index, 3)) (hf : cells + mc ≤ R.cells ∧ slots + ms ≤ R.slots) :
    vx_Run p l e R s m args below meth c H locs cells slots mc ms g rest (Qc As.toArray) XC free := by
  have hK : vx_Back l R p e below s args y 3 8 (PreOf R mc ms Pc) (PostOf Qc mc ms free) (vx_Post XC mc ms free) := vx_callBack cw.1 hM hp.1
  obtain ⟨⟨-, -, -, -, -, -, hcode, hini, hy, hlen, hl⟩, hstt⟩ := cw
  obtain ⟨hx, hb, hml, ho, -⟩ := S
  intro T hT X
  rcases vx_callS X hx (bytes := bytes) (maxL := maxL) (ret := ret) ho hl hstt hini hcode hy hK hg (hsize.trans hml.symm) (argsL := As) (rest := rest) (fun sig h => hn.trans (hlen sig h)) hstack hW (by rw [hb]; exact hdg)
    (fun vm₁ hW₁ => ⟨hf.1, hf.2, hp.2 (T.setVm vm₁) hT hW₁⟩) with ⟨v, vm₁, ⟨U', l2, c2, s2⟩, hW₁, X', ⟨g', mk, t, L, e1, e2, hq, h1, hL, h2, h3⟩, st⟩ | ⟨q, vm₁, ⟨U', l2, c2, s2⟩, hW₁, X', ⟨g', mk, t, L, E, ce, e1, e2, hq, hce, hcv, hcl, h1, hL, h2, h3⟩, st⟩
  · dsimp only [Pt.U, Pt.locs, Pt.cells, Pt.slots] at X' e1 e2 h1 h2 h3 st
    subst h1; subst h2; subst h3
    exact Or.inl ⟨v, (T.setVm vm₁).calling g' mk As.toArray, t, U', L, hT, X', hL, e1, e2, hq, st⟩
  · dsimp only [Pt.U, Pt.locs, Pt.cells, Pt.slots] at X' e1 e2 h1 h2 h3 st hcl
    subst h1; subst h2; subst h3
    exact Or.inr ⟨q, (T.setVm vm₁).calling g' mk As.toArray, t, U', L, E, ce, hT, X', hL, e1, e2, hq, hce, hcv, vx_cls hW₁ hcl, st⟩
end Runs
section Rows
variable {p : Program} {l : Launch} {e : Env} {R : Room} {s : State} {m : MethodId} {args : Array Value} {below : List Frame} {meth : Method} {c : Code} {H : Heap} {locs : List Loc} {cells slots : Nat} {Q : State → Prop}
variable {mc ms : Nat} {free : Addr → Prop} {A0 A1 : Nat → Prop} {H0 : Heap} {a : Array Value} {pc : Nat} {ls : Array Slot} {st0 rest : List Value}
theorem vx_keep {st₀ t T' : State} {L : List Loc} (h0 : st₀.heap = H) (e1 : T'.heap = t.heap) (hS : va_S A0 H0 H locs) (hA : ∀ q, q < H.size → A1 q → A0 q) (hf : ∀ q, free q → A0 q) (hL : ∀ q ∈ L, free q.base) (hF : va_F A1 st₀ t) :
    H.size ≤ T'.heap.size ∧ (∀ q : Nat, q < H.size → ¬ A1 q → T'.heap[q]? = H[q]?) ∧ va_S A0 H0 T'.heap (locs ++ L) := by
  obtain ⟨hz, hk⟩ := hF
  rw [h0] at hz hk
  exact ⟨by rw [e1]; exact hz, fun q h1 h2 => by rw [e1]; exact hk q h1 h2,
    ⟨Nat.le_trans hS.1 (by rw [e1]; exact hz), fun q h1 h2 => by rw [e1, hk q (Nat.lt_of_lt_of_le h1 hS.1) (fun z => h2 (hA q (Nat.lt_of_lt_of_le h1 hS.1) z))]; exact hS.2.1 q h1 h2, fun q hq => by
      rcases List.mem_append.mp hq with h | h
      · exact hS.2.2 q h
      · exact hf _ (hL q h)⟩⟩
theorem vx_calli {S SX : Type} {post : Int32 → S → Prop} {px : SX → Prop} {B : S → State → Prop} {BX : String → SX → State → Prop} {AX : Nat → Prop} (hr : vx_Run p l e R s m args below meth c H locs cells slots mc ms (F0 m pc ls st0) rest (va_Qi post B A1 a) (vx_X px BX AX) free) (hS : va_S A0 H0 H locs) (hA : ∀ q, q < H.size → A1 q → A0 q) (hf : ∀ q, free q → A0 q) (hAX : ∀ q, q < H.size → AX q → A0 q)
    (kx : ∀ (E : String) (ce : Cell) (q9 : Addr) (u : SX) (t : State) (H1 : Heap) (locs1 : List Loc), t.heap = H1 → s.vm.Alike t.vm → px u → BX E u t → H.size ≤ H1.size → (∀ q : Nat, q < H.size → ¬ AX q → H1[q]? = H[q]?) → va_S A0 H0 H1 locs1 → H1[q9]? = some ce → ce.vm = .none → s.vm.findClass E = some ce.cls → vx_W p l e R s m args below meth c H1 locs1 (cells + mc) (slots + ms) Q (F0 m pc ls rest) q9)
    (kk : ∀ (r : Int32) (u : S) (t : State) (H1 : Heap) (locs1 : List Loc), t.heap = H1 → s.vm.Alike t.vm → post r u → B u t → H.size ≤ H1.size → (∀ q : Nat, q < H.size → ¬ A1 q → H1[q]? = H[q]?) → va_S A0 H0 H1 locs1 → W p l e R s m args below meth c H1 locs1 (cells + mc) (slots + ms) Q (F0 m (pc + 3) ls (.int r :: rest))) : W p l e R s m args below meth c H locs cells slots Q (F0 m pc ls st0) := by
  intro T hT X
  rcases hr T hT X with ⟨v, st₀, t, T', L, h0, X', hL, e1, e2, ⟨⟨r, u, hv, hp, hb⟩, hF⟩, st⟩ | ⟨q, st₀, t, T', L, E, ce, h0, X', hL, e1, e2, ⟨u, hp, hb, hF⟩, hce, hcv, hcl, st⟩
  · cases hv
    obtain ⟨k1, k2, k3⟩ := vx_keep h0 e1 hS hA hf hL hF
    obtain ⟨t2, a1, b1⟩ := kk r u t T'.heap (locs ++ L) e1.symm (by rw [← e2]; exact X'.warmed.alike) hp hb k1 k2 k3 T' rfl X'
    exact ⟨t2, st t2 a1, b1⟩
  · obtain ⟨k1, k2, k3⟩ := vx_keep h0 e1 hS hAX hf hL hF
    obtain ⟨t2, a1, b1⟩ := kx E ce q u t T'.heap (locs ++ L) e1.symm (by rw [← e2]; exact X'.warmed.alike) hp hb k1 k2 k3 (by rw [e1]; exact hce) hcv hcl T' rfl X'
    exact ⟨t2, st.trans a1, b1⟩
theorem vx_calll {S SX : Type} {post : Int64 → S → Prop} {px : SX → Prop} {B : S → State → Prop} {BX : String → SX → State → Prop} {AX : Nat → Prop} (hr : vx_Run p l e R s m args below meth c H locs cells slots mc ms (F0 m pc ls st0) rest (va_Ql post B A1 a) (vx_X px BX AX) free) (hS : va_S A0 H0 H locs) (hA : ∀ q, q < H.size → A1 q → A0 q) (hf : ∀ q, free q → A0 q) (hAX : ∀ q, q < H.size → AX q → A0 q)
    (kx : ∀ (E : String) (ce : Cell) (q9 : Addr) (u : SX) (t : State) (H1 : Heap) (locs1 : List Loc), t.heap = H1 → s.vm.Alike t.vm → px u → BX E u t → H.size ≤ H1.size → (∀ q : Nat, q < H.size → ¬ AX q → H1[q]? = H[q]?) → va_S A0 H0 H1 locs1 → H1[q9]? = some ce → ce.vm = .none → s.vm.findClass E = some ce.cls → vx_W p l e R s m args below meth c H1 locs1 (cells + mc) (slots + ms) Q (F0 m pc ls rest) q9)
    (kk : ∀ (r : Int64) (u : S) (t : State) (H1 : Heap) (locs1 : List Loc), t.heap = H1 → s.vm.Alike t.vm → post r u → B u t → H.size ≤ H1.size → (∀ q : Nat, q < H.size → ¬ A1 q → H1[q]? = H[q]?) → va_S A0 H0 H1 locs1 → W p l e R s m args below meth c H1 locs1 (cells + mc) (slots + ms) Q (F0 m (pc + 3) ls (.long r :: rest))) : W p l e R s m args below meth c H locs cells slots Q (F0 m pc ls st0) := by
  intro T hT X
  rcases hr T hT X with ⟨v, st₀, t, T', L, h0, X', hL, e1, e2, ⟨⟨r, u, hv, hp, hb⟩, hF⟩, st⟩ | ⟨q, st₀, t, T', L, E, ce, h0, X', hL, e1, e2, ⟨u, hp, hb, hF⟩, hce, hcv, hcl, st⟩
  · cases hv
    obtain ⟨k1, k2, k3⟩ := vx_keep h0 e1 hS hA hf hL hF
    obtain ⟨t2, a1, b1⟩ := kk r u t T'.heap (locs ++ L) e1.symm (by rw [← e2]; exact X'.warmed.alike) hp hb k1 k2 k3 T' rfl X'
    exact ⟨t2, st t2 a1, b1⟩
  · obtain ⟨k1, k2, k3⟩ := vx_keep h0 e1 hS hAX hf hL hF
    obtain ⟨t2, a1, b1⟩ := kx E ce q u t T'.heap (locs ++ L) e1.symm (by rw [← e2]; exact X'.warmed.alike) hp hb k1 k2 k3 (by rw [e1]; exact hce) hcv hcl T' rfl X'
    exact ⟨t2, st.trans a1, b1⟩
theorem vx_callf {S SX : Type} {post : UInt32 → S → Prop} {px : SX → Prop} {B : S → State → Prop} {BX : String → SX → State → Prop} {AX : Nat → Prop} (hr : vx_Run p l e R s m args below meth c H locs cells slots mc ms (F0 m pc ls st0) rest (va_Qf post B A1 a) (vx_X px BX AX) free) (hS : va_S A0 H0 H locs) (hA : ∀ q, q < H.size → A1 q → A0 q) (hf : ∀ q, free q → A0 q) (hAX : ∀ q, q < H.size → AX q → A0 q)
    (kx : ∀ (E : String) (ce : Cell) (q9 : Addr) (u : SX) (t : State) (H1 : Heap) (locs1 : List Loc), t.heap = H1 → s.vm.Alike t.vm → px u → BX E u t → H.size ≤ H1.size → (∀ q : Nat, q < H.size → ¬ AX q → H1[q]? = H[q]?) → va_S A0 H0 H1 locs1 → H1[q9]? = some ce → ce.vm = .none → s.vm.findClass E = some ce.cls → vx_W p l e R s m args below meth c H1 locs1 (cells + mc) (slots + ms) Q (F0 m pc ls rest) q9)
    (kk : ∀ (r : UInt32) (u : S) (t : State) (H1 : Heap) (locs1 : List Loc), t.heap = H1 → s.vm.Alike t.vm → post r u → B u t → H.size ≤ H1.size → (∀ q : Nat, q < H.size → ¬ A1 q → H1[q]? = H[q]?) → va_S A0 H0 H1 locs1 → W p l e R s m args below meth c H1 locs1 (cells + mc) (slots + ms) Q (F0 m (pc + 3) ls (.float r :: rest))) : W p l e R s m args below meth c H locs cells slots Q (F0 m pc ls st0) := by
  intro T hT X
  rcases hr T hT X with ⟨v, st₀, t, T', L, h0, X', hL, e1, e2, ⟨⟨r, u, hv, hp, hb⟩, hF⟩, st⟩ | ⟨q, st₀, t, T', L, E, ce, h0, X', hL, e1, e2, ⟨u, hp, hb, hF⟩, hce, hcv, hcl, st⟩
  · cases hv
    obtain ⟨k1, k2, k3⟩ := vx_keep h0 e1 hS hA hf hL hF
    obtain ⟨t2, a1, b1⟩ := kk r u t T'.heap (locs ++ L) e1.symm (by rw [← e2]; exact X'.warmed.alike) hp hb k1 k2 k3 T' rfl X'
    exact ⟨t2, st t2 a1, b1⟩
  · obtain ⟨k1, k2, k3⟩ := vx_keep h0 e1 hS hAX hf hL hF
    obtain ⟨t2, a1, b1⟩ := kx E ce q u t T'.heap (locs ++ L) e1.symm (by rw [← e2]; exact X'.warmed.alike) hp hb k1 k2 k3 (by rw [e1]; exact hce) hcv hcl T' rfl X'
    exact ⟨t2, st.trans a1, b1⟩
theorem vx_calld {S SX : Type} {post : UInt64 → S → Prop} {px : SX → Prop} {B : S → State → Prop} {BX : String → SX → State → Prop} {AX : Nat → Prop} (hr : vx_Run p l e R s m args below meth c H locs cells slots mc ms (F0 m pc ls st0) rest (va_Qd post B A1 a) (vx_X px BX AX) free) (hS : va_S A0 H0 H locs) (hA : ∀ q, q < H.size → A1 q → A0 q) (hf : ∀ q, free q → A0 q) (hAX : ∀ q, q < H.size → AX q → A0 q)
    (kx : ∀ (E : String) (ce : Cell) (q9 : Addr) (u : SX) (t : State) (H1 : Heap) (locs1 : List Loc), t.heap = H1 → s.vm.Alike t.vm → px u → BX E u t → H.size ≤ H1.size → (∀ q : Nat, q < H.size → ¬ AX q → H1[q]? = H[q]?) → va_S A0 H0 H1 locs1 → H1[q9]? = some ce → ce.vm = .none → s.vm.findClass E = some ce.cls → vx_W p l e R s m args below meth c H1 locs1 (cells + mc) (slots + ms) Q (F0 m pc ls rest) q9)
    (kk : ∀ (r : UInt64) (u : S) (t : State) (H1 : Heap) (locs1 : List Loc), t.heap = H1 → s.vm.Alike t.vm → post r u → B u t → H.size ≤ H1.size → (∀ q : Nat, q < H.size → ¬ A1 q → H1[q]? = H[q]?) → va_S A0 H0 H1 locs1 → W p l e R s m args below meth c H1 locs1 (cells + mc) (slots + ms) Q (F0 m (pc + 3) ls (.double r :: rest))) : W p l e R s m args below meth c H locs cells slots Q (F0 m pc ls st0) := by
  intro T hT X
  rcases hr T hT X with ⟨v, st₀, t, T', L, h0, X', hL, e1, e2, ⟨⟨r, u, hv, hp, hb⟩, hF⟩, st⟩ | ⟨q, st₀, t, T', L, E, ce, h0, X', hL, e1, e2, ⟨u, hp, hb, hF⟩, hce, hcv, hcl, st⟩
  · cases hv
    obtain ⟨k1, k2, k3⟩ := vx_keep h0 e1 hS hA hf hL hF
    obtain ⟨t2, a1, b1⟩ := kk r u t T'.heap (locs ++ L) e1.symm (by rw [← e2]; exact X'.warmed.alike) hp hb k1 k2 k3 T' rfl X'
    exact ⟨t2, st t2 a1, b1⟩
  · obtain ⟨k1, k2, k3⟩ := vx_keep h0 e1 hS hAX hf hL hF
    obtain ⟨t2, a1, b1⟩ := kx E ce q u t T'.heap (locs ++ L) e1.symm (by rw [← e2]; exact X'.warmed.alike) hp hb k1 k2 k3 (by rw [e1]; exact hce) hcv hcl T' rfl X'
    exact ⟨t2, st.trans a1, b1⟩
theorem vx_callv {S SX : Type} {post : S → Prop} {px : SX → Prop} {B : S → State → Prop} {BX : String → SX → State → Prop} {AX : Nat → Prop} (hr : vx_Run p l e R s m args below meth c H locs cells slots mc ms (F0 m pc ls st0) rest (va_Qv post B A1 a) (vx_X px BX AX) free) (hS : va_S A0 H0 H locs) (hA : ∀ q, q < H.size → A1 q → A0 q) (hf : ∀ q, free q → A0 q) (hAX : ∀ q, q < H.size → AX q → A0 q)
    (kx : ∀ (E : String) (ce : Cell) (q9 : Addr) (u : SX) (t : State) (H1 : Heap) (locs1 : List Loc), t.heap = H1 → s.vm.Alike t.vm → px u → BX E u t → H.size ≤ H1.size → (∀ q : Nat, q < H.size → ¬ AX q → H1[q]? = H[q]?) → va_S A0 H0 H1 locs1 → H1[q9]? = some ce → ce.vm = .none → s.vm.findClass E = some ce.cls → vx_W p l e R s m args below meth c H1 locs1 (cells + mc) (slots + ms) Q (F0 m pc ls rest) q9)
    (kk : ∀ (u : S) (t : State) (H1 : Heap) (locs1 : List Loc), t.heap = H1 → s.vm.Alike t.vm → post u → B u t → H.size ≤ H1.size → (∀ q : Nat, q < H.size → ¬ A1 q → H1[q]? = H[q]?) → va_S A0 H0 H1 locs1 → W p l e R s m args below meth c H1 locs1 (cells + mc) (slots + ms) Q (F0 m (pc + 3) ls (rest))) : W p l e R s m args below meth c H locs cells slots Q (F0 m pc ls st0) := by
  intro T hT X
  rcases hr T hT X with ⟨v, st₀, t, T', L, h0, X', hL, e1, e2, ⟨⟨u, hv, hp, hb⟩, hF⟩, st⟩ | ⟨q, st₀, t, T', L, E, ce, h0, X', hL, e1, e2, ⟨u, hp, hb, hF⟩, hce, hcv, hcl, st⟩
  · cases hv
    obtain ⟨k1, k2, k3⟩ := vx_keep h0 e1 hS hA hf hL hF
    obtain ⟨t2, a1, b1⟩ := kk u t T'.heap (locs ++ L) e1.symm (by rw [← e2]; exact X'.warmed.alike) hp hb k1 k2 k3 T' rfl X'
    exact ⟨t2, st t2 a1, b1⟩
  · obtain ⟨k1, k2, k3⟩ := vx_keep h0 e1 hS hAX hf hL hF
    obtain ⟨t2, a1, b1⟩ := kx E ce q u t T'.heap (locs ++ L) e1.symm (by rw [← e2]; exact X'.warmed.alike) hp hb k1 k2 k3 (by rw [e1]; exact hce) hcv hcl T' rfl X'
    exact ⟨t2, st.trans a1, b1⟩
/-- caught by the row x of this method's table; the rows ahead don't take it -/
theorem vx_catch {own name : String} {E : String} {ce : Cell} {q : Addr} (hown : s.vm.findClass own = some m.cls) (pre : List ExceptionTableEntry) (x : ExceptionTableEntry) (suf : List ExceptionTableEntry) (hsplit : c.exceptionTable.toList = pre ++ x :: suf)
    (hpass : ∀ z ∈ pre, covers z pc = false ∨ (z.catchType ≠ 0 ∧ ∃ nm : String, (Cond.classLink own z.catchType nm).before args s = true ∧ va_Nc E nm s)) (hx : covers x pc = true) (h0 : x.catchType ≠ 0)
    (hlink : (Cond.classLink own x.catchType name).before args s = true) (hcast : (Cond.castable E name).before args s = true) (hcell : H[q]? = some ce) (hv : ce.vm = .none) (hcl : s.vm.findClass E = some ce.cls)
    (kk : W p l e R s m args below meth c H locs cells slots Q (F0 m x.handlerPc ls [.ref q])) : vx_W p l e R s m args below meth c H locs cells slots Q (F0 m pc ls rest) q := by
  intro T hT X
  have hpl : e.platform.magicAccessors = ({} : Platform).magicAccessors := by rw [X.admits.platform]
  obtain ⟨c3, c4, hc3, hc4, hasg⟩ := Cond.castable_spec hcast
  cases Option.some.inj (hc3.symm.trans hcl)
  obtain ⟨c5, hc5, hcl5⟩ := Cond.classLink_spec hown hlink e.platform hpl
  cases Option.some.inj (hc4.symm.trans hc5)
  obtain ⟨vm', X', st⟩ := X.thenCaughtThrough q (g := F0 m pc ls rest) rfl (Steps.refl _) (by rw [hT]; exact hcell) (by rw [hv]; rfl) (by obtain ⟨k9, h9, -⟩ := Vm.findClass_spec hcl; exact ⟨k9, h9⟩) pre x suf hsplit
    (fun z hz => by
      rcases hpass z hz with h | ⟨hz0, nm, hl1, hn1⟩
      · exact Or.inl h
      · obtain ⟨c6, hc6, hcl6⟩ := Cond.classLink_spec hown hl1 e.platform hpl
        obtain ⟨a8, b8, h1, h2, h3⟩ := hn1
        cases Option.some.inj (h1.symm.trans hcl)
        cases Option.some.inj (h2.symm.trans hc6)
        exact Or.inr ⟨hz0, _, hcl6, h3⟩) hx (Or.inr ⟨h0, c4, hcl5, hasg⟩)
  obtain ⟨t, a1, b1⟩ := kk (T.setVm vm') hT X'
  exact ⟨t, st.trans a1, b1⟩
end Rows
section Ends
variable {p : Program} {l : Launch} {e : Env} {R : Room} {s : State} {m : MethodId} {args : Array Value} {below : List Frame} {meth : Method} {c : Code} {H : Heap} {locs : List Loc} {cells slots : Nat} {Q : State → Prop}
variable {mc ms : Nat} {free : Addr → Prop} {A0 A1 : Nat → Prop} {H0 : Heap} {a : Array Value} {ls : Array Slot} {st0 rest : List Value}
variable {Qc : Array Value → State → Outcome → State → Prop} {XC : String → State → State → Prop}
/-- what a body that may throw owes at its end -/
def vx_MQ (below : List Frame) (Qc : Array Value → State → Outcome → State → Prop) (XC : String → State → State → Prop) (a : Array Value) (s : State) (mc ms : Nat) (free : Addr → Prop) : State → Prop := fun t =>
  ∃ o, t.status = .running ∧ Ended t below o ∧ vx_Q Qc XC mc ms free a s o t
theorem vx_ret {g : JFrame} {mc ms : Nat} (k : W p l e R s m args below meth c H locs cells slots (MQ below Qc args s mc ms free) g) : W p l e R s m args below meth c H locs cells slots (vx_MQ below Qc XC args s mc ms free) g := by
  intro T hT X
  obtain ⟨t, a1, o, b1, b2, b3, b4⟩ := k T hT X
  exact ⟨t, a1, o, b1, b2, Or.inl ⟨b3, b4⟩⟩
/-- not caught here: it goes on to the caller -/
theorem vx_widen {g : JFrame} {q : Addr} {k n : Nat} (h1 : cells ≤ k) (h2 : slots ≤ n) (kk : vx_W p l e R s m args below meth c H locs k n Q g q) : vx_W p l e R s m args below meth c H locs cells slots Q g q := fun T hT X => kk T hT (stand_widen X h1 h2)
theorem vx_out {pc : Nat} {E : String} {ce : Cell} {q : Addr} {mc ms : Nat} (hout : ∀ x ∈ c.exceptionTable.toList, covers x pc = false) (hlocks : meth.locks = false) (hcell : H[q]? = some ce) (hv : ce.vm = .none) (hcl : s.vm.findClass E = some ce.cls)
    (hx : ∀ t : State, t.heap = H → s.vm.Alike t.vm → XC E s t) (hf : ∀ z ∈ locs, free z.base) (hc : cells ≤ mc) (hs : slots ≤ ms) :
    vx_W p l e R s m args below meth c H locs cells slots (vx_MQ below Qc XC args s mc ms free) (F0 m pc ls rest) q := by
  intro T hT X
  obtain ⟨st1, hrun, hend, hW, hsm⟩ := X.leaveThrown q (g := F0 m pc ls rest) rfl rfl rfl hout hlocks
  have hcell9 : (T.setFrames (.throwing q :: below)).heap[q]? = some ce := by
    show T.heap[q]? = some ce
    rw [hT]; exact hcell
  exact ⟨_, st1, .threw q, hrun, hend, Or.inr ⟨q, rfl, E, ce, locs, hx _ hT hW.alike, hcell9, hv, hcl, hW, hsm.mono hc hs, hf⟩⟩
theorem vx_frame {U : State} {k n : Nat} (h : s.sameButNew ({ U with vm := s.vm } : State) locs k n) : s.heap.size ≤ U.heap.size ∧ ∀ q : Nat, q < s.heap.size → (∀ z ∈ locs, z.base ≠ q) → U.heap[q]? = s.heap[q]? := by
  obtain ⟨-, h2, -, -, -, h6⟩ := h
  refine ⟨h2, fun q hq hz => ?_⟩
  obtain ⟨c9, e1, e2, e3, e4⟩ := h6 q _ (Array.getElem?_eq_getElem hq)
  have hs : c9.slots = (s.heap[q]).slots := Array.ext_getElem? fun i => e4 i fun hm => hz _ hm rfl
  have h9 : c9 = s.heap[q] := by
    rw [hs] at e2
    exact e2
  have e5 : U.heap[q]? = some c9 := e1
  rw [e5, h9, Array.getElem?_eq_getElem hq]
/-- the words of a throw but the four that speak of the heap -/
def vx_no (w : Cond) : Bool := decide (w ≠ .isRef (.static Bundle.tN "UNASSIGNED_STACK" Bundle.steD)) && decide (w ≠ .isRef (.static Bundle.tN "SUPPRESSED_SENTINEL" Bundle.listD)) && decide (w ≠ .laysStatic Bundle.tN "UNASSIGNED_STACK" Bundle.steD) && decide (w ≠ .laysStatic Bundle.tN "SUPPRESSED_SENTINEL" Bundle.listD)
def vx_at0 (own : String) (ic : Nat) (X : String) (names : List String) : List Cond := (Bundle.ownAtoms0 own ic X names).filter vx_no
def vx_atS (own : String) (ic : Nat) (X : String) (names : List String) : List Cond := (Bundle.ownAtoms own ic X names).filter vx_no
/-- a word that the tables alone decide, or a good one -/
def vx_ot (w : Cond) : Bool := w.onTables || goodWord w
theorem vx_ot_at {args a' : Array Value} {s U : State} {w : Cond} (hW : s.WarmedH U.vm) (hvm : s.vm = U.vm) (hg : vx_ot w = true) (h : w.before args s = true) : w.before a' U = true := by
  simp only [vx_ot, Bool.or_eq_true] at hg
  rcases hg with hg | hg
  · exact va_tabs hg hvm h
  · exact word_at hW (good_of_word hg) h
/-- a list's words: the good ones out of the method's own list, the others by premises of their own -/
theorem vx_hat {args : Array Value} {s : State} {L B : List Cond} (h1 : ∀ w ∈ L.filter goodWord, w.before args s = true) (h2 : ∀ w ∈ L.filter (fun w => !goodWord w), w ∈ B) (h3 : ∀ w ∈ B, w.before args s = true) : ∀ w ∈ L, w.before args s = true := by
  intro w hw
  by_cases g : goodWord w = true
  · exact h1 w (List.mem_filter.mpr ⟨hw, g⟩)
  · refine h3 w (h2 w (List.mem_filter.mpr ⟨hw, ?_⟩))
    show (!goodWord w) = true
    cases hgw : goodWord w
    · rfl
    · exact absurd hgw g
theorem vx_c {args : Array Value} {s : State} {w : Cond} {B : List Cond} (h : w.before args s = true) (t : ∀ w ∈ B, w.before args s = true) : ∀ w' ∈ w :: B, w'.before args s = true := fun w' h' => (List.mem_cons.mp h').elim (fun e => by rw [e]; exact h) (t w')
theorem vx_n {args : Array Value} {s : State} : ∀ w ∈ ([] : List Cond), w.before args s = true := fun _ h => nomatch h
theorem vx_own {args : Array Value} {s : State} {L : List Cond} (h1 : ∀ w ∈ L.filter vx_no, w.before args s = true)
    (hU : (Cond.isRef (.static Bundle.tN "UNASSIGNED_STACK" Bundle.steD)).before args s = true) (hN : (Cond.isRef (.static Bundle.tN "SUPPRESSED_SENTINEL" Bundle.listD)).before args s = true)
    (lU : (Cond.laysStatic Bundle.tN "UNASSIGNED_STACK" Bundle.steD).before args s = true) (lN : (Cond.laysStatic Bundle.tN "SUPPRESSED_SENTINEL" Bundle.listD).before args s = true) : ∀ w ∈ L, w.before args s = true := by
  intro w hw
  by_cases e1 : w = .isRef (.static Bundle.tN "UNASSIGNED_STACK" Bundle.steD)
  · rw [e1]; exact hU
  · by_cases e2 : w = .isRef (.static Bundle.tN "SUPPRESSED_SENTINEL" Bundle.listD)
    · rw [e2]; exact hN
    · by_cases e3 : w = .laysStatic Bundle.tN "UNASSIGNED_STACK" Bundle.steD
      · rw [e3]; exact lU
      · by_cases e4 : w = .laysStatic Bundle.tN "SUPPRESSED_SENTINEL" Bundle.listD
        · rw [e4]; exact lN
        · exact h1 w (List.mem_filter.mpr ⟨hw, by unfold vx_no; rw [decide_eq_true e1, decide_eq_true e2, decide_eq_true e3, decide_eq_true e4]; rfl⟩)
/-- where a static field lies, its class's statics cell in H -/
def vx_L (C n d : String) (A : Nat → Prop) (U : State) (H : Heap) : Prop := ∃ (c : ClassId) (k : Class) (i : Nat) (f : Field) (a : Nat) (cell : Cell), U.vm.findClass C = some c ∧ U.fieldFound? C n d = some (c, k, i, f) ∧ f.isStatic = true ∧ k.statics = some a ∧ H[a]? = some cell ∧ cell.vm.isStatics = true ∧ cell.cls = c ∧ f.slot < cell.slots.size ∧ k.staticTypes[f.slot]? = some f.type ∧ ¬ A a
theorem vx_L.moved {C n d : String} {A : Nat → Prop} {u U : State} {H : Heap} (hvm : u.vm.Alike U.vm) (h : vx_L C n d A u H) : vx_L C n d A U H := by
  obtain ⟨c, k, i, f, a, cell, h1, h2, h3, h4, h5, h6, h7, h8, h9, h10⟩ := h
  obtain ⟨k', hi', he⟩ := State.fieldFound?_setVm hvm h2
  exact ⟨c, k', i, f, a, cell, by rw [hvm.findClass]; exact h1, hi', h3, by rw [he]; exact h4, h5, h6, h7, h8, by rw [he]; exact h9, h10⟩
theorem vx_L.kept {C n d : String} {A : Nat → Prop} {U : State} {H H1 : Heap} (h : vx_L C n d A U H) (hq : ∀ a : Nat, a < H.size → ¬ A a → H1[a]? = H[a]?) : vx_L C n d A U H1 := by
  obtain ⟨c, k, i, f, a, cell, h1, h2, h3, h4, h5, h6, h7, h8, h9, h10⟩ := h
  exact ⟨c, k, i, f, a, cell, h1, h2, h3, h4, by rw [hq a (Array.getElem?_eq_some_iff.mp h5).1 h10]; exact h5, h6, h7, h8, h9, h10⟩
theorem vx_L.narrow {C n d : String} {A B : Nat → Prop} {U : State} {H : Heap} (h : vx_L C n d A U H) (hAB : ∀ q, B q → A q) : vx_L C n d B U H := by
  obtain ⟨c, k, i, f, a, cell, h1, h2, h3, h4, h5, h6, h7, h8, h9, h10⟩ := h
  exact ⟨c, k, i, f, a, cell, h1, h2, h3, h4, h5, h6, h7, h8, h9, fun z => h10 (hAB _ z)⟩
theorem vx_L.word {C n d : String} {A : Nat → Prop} {s : State} {args : Array Value} (h : vx_L C n d A s s.heap) : (Cond.laysStatic C n d).before args s = true := by
  obtain ⟨c, k, i, f, a, cell, h1, h2, h3, h4, h5, h6, h7, h8, h9, -⟩ := h
  show (Cond.laysStatic C n d).holds args s none s [] = true
  exact Cond.laysStatic_of h1 h2 h3 h4 h5 h6 h7 h8 h9
/-- .. and what it holds: null or some reference -/
def vx_Zq (C n d : String) (A : Nat → Prop) (U : State) (H : Heap) : Prop := va_Zq C n d A U H ∧ vx_L C n d A U H
theorem vx_Zq.moved {C n d : String} {A : Nat → Prop} {u U : State} {H : Heap} (hvm : u.vm.Alike U.vm) (h : vx_Zq C n d A u H) : vx_Zq C n d A U H := ⟨va_Zq.moved hvm h.1, vx_L.moved hvm h.2⟩
theorem vx_Zq.kept {C n d : String} {A : Nat → Prop} {U : State} {H H1 : Heap} (h : vx_Zq C n d A U H) (hq : ∀ a : Nat, a < H.size → ¬ A a → H1[a]? = H[a]?) : vx_Zq C n d A U H1 := ⟨va_Zq.kept h.1 hq, vx_L.kept h.2 hq⟩
theorem vx_Zq.narrow {C n d : String} {A B : Nat → Prop} {U : State} {H : Heap} (h : vx_Zq C n d A U H) (hAB : ∀ q, B q → A q) : vx_Zq C n d B U H := ⟨va_Zq.narrow h.1 hAB, vx_L.narrow h.2 hAB⟩
theorem vx_Zqof {args : Array Value} {s : State} {C n d : String} {A : Nat → Prop} (hl : (Cond.laysStatic C n d).before args s = true) (hini : (Cond.initialized C).before args s = true) (h : (Cond.isRef (.static C n d)).before args s = true) (hA : ∀ a : Nat, a < s.heap.size → ¬ A a) : vx_Zq C n d A s s.heap := by
  refine ⟨va_Zqof hl hini h hA, ?_⟩
  obtain ⟨c, k, i, f, a, cell, h1, h2, h3, h4, h5, h6, h7, h8, h9⟩ := Cond.laysStatic_spec hl
  exact ⟨c, k, i, f, a, cell, h1, h2, h3, h4, h5, h6, h7, h8, h9, hA a (Array.getElem?_eq_some_iff.mp h5).1⟩
theorem vx_isRef {C n d : String} {v : Value} {A : Nat → Prop} {s : State} {args : Array Value} (h : va_Z C n d v A s s.heap) (hv : v.isRef = true) : (Cond.isRef (.static C n d)).before args s = true := by
  obtain ⟨cf, kf, fi, f, a, cell, h1, h2, h3, h4, h5, h6, h7, -⟩ := h
  have he : (Term.static C n d).eval args s none [] s = some v := by
    simp [Term.eval, State.fieldNamed?, h1, h2, h4, h5, h6, h7]
  simp only [Cond.before, Cond.holds, Cond.value, he]
  cases v <;> simp_all [Value.isRef]
theorem vx_isRefq {C n d : String} {A : Nat → Prop} {s : State} {args : Array Value} (h : va_Zq C n d A s s.heap) : (Cond.isRef (.static C n d)).before args s = true := by
  rcases h with h | ⟨t, h⟩
  · exact vx_isRef h rfl
  · exact vx_isRef h rfl
/-- the same frame, seen from here: as if the method were called anew in this heap -/
theorem vx_rebase {T : State} (X : Stand p l e R s m args below meth c T locs cells slots) {R' : Room} (hf : R'.frames ≤ R.frames) (hl : R'.locals ≤ R.locals) (hc : cells + R'.cells ≤ R.cells) (hs : slots + R'.slots ≤ R.slots) :
    Stand p l e R' ((T.setVm s.vm).setFrames (.invoking m args :: below)) m args below meth c T [] 0 0 := by
  have htop : (T.setVm s.vm).topJava?.isSome := X.here.top
  have hF : ((T.setVm s.vm).setFrames (.invoking m args :: below)).frames = .invoking m args :: below := State.frames_setFrames _ (State.cur_lt_of_top htop)
  obtain ⟨g₀, hg0⟩ := Option.isSome_iff_exists.mp htop
  obtain ⟨r, hr⟩ := State.topJava?_eq_some.mp hg0
  have hl9 : e.platform.stackLimits (T.setVm s.vm).me = e.platform.stackLimits s.me := X.limits
  have hb9 : (T.setVm s.vm).me.stackBytes = s.me.stackBytes := X.bytes
  refine ⟨X.admits, X.cas, X.clock, hF, ?_, X.hears, X.method, X.code, X.here, X.tail, X.warmed, ?_, ?_, ?_⟩
  · have h := X.room
    have hU : ((T.setVm s.vm).setFrames (.invoking m args :: below)).localsInUse = s.localsInUse := by
      rw [State.localsInUse_invoking hF (meth := meth) (c := c) X.method X.code, State.localsInUse_invoking X.frames X.method X.code]
    simp only [State.hasRoom, Bool.and_eq_true, decide_eq_true_eq] at h ⊢
    obtain ⟨⟨⟨⟨h1, h2, h3, h4, h5, h6⟩, h7⟩, h8⟩, h9⟩ := h
    rw [X.frames, List.length_cons] at h2 h3
    have q1 := X.heapSize
    have q2 := X.used
    simp only [hF, hU, List.length_cons, State.stackLimits_setFrames, State.stackBytes_setFrames, hl9, hb9]
    refine ⟨⟨⟨⟨by omega, by omega, by omega, by omega, by omega, h6⟩, ?_⟩, ?_⟩, X.book⟩
    · show T.heap.size + R'.cells ≤ e.platform.maxCells
      omega
    · show T.slotsUsed + R'.slots ≤ e.platform.maxSlots
      omega
  · rw [State.stackLimits_setFrames]; rfl
  · rw [State.stackBytes_setFrames]; rfl
  · refine ⟨?_, Nat.le_refl _, Nat.le_refl _, ?_, ?_, fun a c9 h9 => ⟨c9, h9, rfl, rfl, fun _ _ => rfl⟩⟩
    · obtain ⟨t, ht, -⟩ := State.frames_cons hr
      show T.setVm s.vm = { ((T.setVm s.vm).setFrames (.invoking m args :: below)).setFrames (T.setVm s.vm).frames with heap := T.heap, slotsUsed := T.slotsUsed }
      rw [State.setFrames_setFrames, State.setFrames_self ht]
      rfl
    · show T.slotsUsed = T.slotsUsed + ((T.heap.toList.drop T.heap.size).map (·.slots.size)).sum
      rw [List.drop_eq_nil_of_le (Nat.le_of_eq Array.length_toList)]
      rfl
    · show ((T.heap.toList.drop T.heap.size).map (·.slots.size)).sum ≤ 0
      rw [List.drop_eq_nil_of_le (Nat.le_of_eq Array.length_toList)]
      exact Nat.le_refl _
/-- 'throw new E()': new; dup; invokespecial; athrow -/
theorem vx_throw0 {cc : ByteArray} {pc : Nat} (hexec : p.tables.exec = Jvm.exec) (hb : c.code = cc) (hl : l.stackTraces = false) {own cls : String} {names : List String} {ik ic mc ms : Nat} {A : Nat → Prop}
    (hown : s.vm.findClass own = some m.cls) (hcls : Bundle.fit cls = true) (hnames : ∀ n ∈ names, Bundle.fit n = true)
    (hk : (Cond.classLink own ik cls).before args s = true) (hini : (Cond.initialized cls).before args s = true) (hat : ∀ w ∈ vx_at0 own ic cls names, w.before args s = true)
    (hgood : ∀ w ∈ Cond.classLink own ik cls :: Cond.initialized cls :: vx_at0 own ic cls names, vx_ot w = true)
    (hU : vx_Zq Bundle.tN "UNASSIGNED_STACK" Bundle.steD A s s.heap) (hN : vx_Zq Bundle.tN "SUPPRESSED_SENTINEL" Bundle.listD A s s.heap) (hS : va_S A s.heap H locs) (hsize : ls.size = c.maxLocals)
    (d0 : decode cc pc = .ok (.new ik, 3)) (d3 : decode cc (pc + 3) = .ok (.dup, 1)) (d4 : decode cc (pc + 4) = .ok (.invokespecial ic, 3)) (d7 : decode cc (pc + 7) = .ok (.athrow, 1))
    (hout : ∀ x ∈ c.exceptionTable.toList, covers x (pc + 7) = false)
    (hRframes : names.length + 3 < R.frames) (hRlocals : (rest.map fun v => v.category).sum + (13 * (names.length + 1) + 42) ≤ R.locals) (hRcells : cells + 1 ≤ R.cells) (hRslots : slots + 6 ≤ R.slots) (hlocks : meth.locks = false)
    (hx : ∀ t : State, s.vm.Alike t.vm → H.size ≤ t.heap.size → (∀ q : Nat, q < H.size → t.heap[q]? = H[q]?) → XC cls s t)
    (hf : ∀ z ∈ locs, free z.base) (hc : cells + 1 ≤ mc) (hs : slots + 6 ≤ ms) :
    W p l e R s m args below meth c H locs cells slots (vx_MQ below Qc XC args s mc ms free) (F0 m pc ls rest) := by
  intro T hT X
  have htr : e.platform.stackTraces = false := (show e.platform.stackTraces = l.stackTraces by rw [X.admits.platform]).trans hl
  have Y := vx_rebase X (R' := { frames := R.frames, locals := R.locals, cells := 1, slots := 6 }) (Nat.le_refl _) (Nat.le_refl _) hRcells hRslots
  obtain ⟨s', hA⟩ : ∃ z, z = (T.setVm s.vm).setFrames (.invoking m args :: below) := ⟨_, rfl⟩
  rw [← hA] at Y
  have hvm : s'.vm = s.vm := by rw [hA]; rfl
  have hhp : s'.heap = H := by rw [hA]; exact hT
  have hW0 : s.WarmedH s'.vm := by rw [hvm]; exact State.WarmedH.refl s
  have hat' : ∀ w ∈ vx_at0 own ic cls names, w.before args s' = true := fun w hw => vx_ot_at hW0 hvm.symm (hgood w (List.mem_cons_of_mem _ (List.mem_cons_of_mem _ hw))) (hat w hw)
  have hk' : (Cond.classLink own ik cls).before args s' = true := vx_ot_at hW0 hvm.symm (hgood _ List.mem_cons_self) hk
  have hini' : (Cond.initialized cls).before args s' = true := vx_ot_at hW0 hvm.symm (hgood _ (List.mem_cons_of_mem _ List.mem_cons_self)) hini
  have hU' : vx_Zq Bundle.tN "UNASSIGNED_STACK" Bundle.steD A s' s'.heap := by rw [hhp]; exact vx_Zq.moved hW0.alike (hU.kept hS.2.1)
  have hN' : vx_Zq Bundle.tN "SUPPRESSED_SENTINEL" Bundle.listD A s' s'.heap := by rw [hhp]; exact vx_Zq.moved hW0.alike (hN.kept hS.2.1)
  have h : ∀ w ∈ Bundle.ownAtoms0 own ic cls names, w.before args s' = true := vx_own hat' (vx_isRefq hU'.1) (vx_isRefq hN'.1) hU'.2.word hN'.2.word
  have hown' : s'.vm.findClass own = some m.cls := by rw [hvm]; exact hown
  have hins : (Cond.instantiable cls 6).before args s' = true := h _ (by simp [Bundle.ownAtoms0])
  obtain ⟨vm₁, cX, kX, hfX, hkX, -, -, X₁, st1⟩ := Y.newCold hexec (own := own) (C := cls) (index := ik) (n := 6) hown' hk' hins hini'
    (g := F0 m pc ls rest) rfl (by rw [hb]; exact d0) (Nat.le_refl _) (Nat.le_refl _)
  generalize hT1 : (T.setVm vm₁).pushCell { cls := cX, slots := kX.instanceTypes.map defaultValue, vm := .none } = T1 at X₁ st1
  have hcat : (Value.ref T.heap.size).category = 1 := rfl
  have hcellA : T1.heap[T.heap.size]? = some (freshCell cX kX) := by rw [← hT1]; exact State.heap_pushCell_size _ _
  have d3' : decode c.code (pc + 3) = .ok (.dup, 1) := by rw [hb]; exact d3
  obtain ⟨U, hsteps, hrun, hend, hW, hsame, ce, hce, hO⟩ := X₁.ctorThrow0 hexec htr (own := own) (cls := cls) (names := names) (ic := ic) hown' hcls hnames h (fun x hx => nomatch hx) hfX hkX hcellA (by rw [hhp, hT]; exact Nat.le_refl _)
    (g := { method := m, pc := pc + 4, locals := ls, stack := .ref T.heap.size :: .ref T.heap.size :: rest, locked := none }) rfl hsize rfl rfl (rest := rest) rfl
    (by rw [hb]; exact d4) (by rw [hb]; exact d7) hout hRframes (by simp only [List.map_cons, List.sum_cons, hcat]; omega) hlocks
  obtain ⟨f1, f2⟩ := vx_frame hsame
  rw [hhp] at f1 f2
  have hWs : s.WarmedH U.vm := State.WarmedH.trans hW0 hW
  have hcl : s.vm.findClass cls = some ce.cls := by
    have h9 := hO.cls
    rw [hvm] at h9
    exact h9
  have hall : s.sameButNew ({ U with vm := s.vm } : State) locs mc ms := by
    subst hA
    obtain ⟨e1, e2⟩ := hsame
    rw [State.setFrames_setFrames] at e1
    have h2 : (T.setVm s.vm).sameButNew ({ U with vm := s.vm } : State) [] (0 + 1) (0 + 6) := ⟨e1, e2⟩
    have h3 := X.same.trans h2
    rw [List.append_nil] at h3
    exact h3.mono hc hs
  refine ⟨U, ?_, .threw T.heap.size, hrun, hend, Or.inr ⟨T.heap.size, rfl, cls, ce, locs, hx U hWs.alike f1 (fun q hq => f2 q hq (fun z hz => nomatch hz)), hce, hO.vm, hcl, hWs, hall, hf⟩⟩
  refine st1 _ ?_
  show Steps p.tables e below (T1.setTop { method := m, pc := pc + 3, locals := ls, stack := .ref T.heap.size :: rest, locked := none }) _
  jvm_step X₁.here [X₁.here.top, hexec, d3', Value.category]
  exact hsteps
/-- 'throw new E("text")': new; dup; ldc; invokespecial; athrow -/
theorem vx_throwS {cc : ByteArray} {pc : Nat} (hexec : p.tables.exec = Jvm.exec) (hb : c.code = cc) (hl : l.stackTraces = false) {own cls text : String} {names : List String} {ik is ic mc ms sa : Nat} {A : Nat → Prop}
    (hown : s.vm.findClass own = some m.cls) (hcls : Bundle.fit cls = true) (hnames : ∀ n ∈ names, Bundle.fit n = true)
    (hk : (Cond.classLink own ik cls).before args s = true) (hini : (Cond.initialized cls).before args s = true) (hstr : vk_R own is text sa s) (hat : ∀ w ∈ vx_atS own ic cls names, w.before args s = true)
    (hgood : ∀ w ∈ Cond.classLink own ik cls :: Cond.initialized cls :: vx_atS own ic cls names, vx_ot w = true)
    (hU : vx_Zq Bundle.tN "UNASSIGNED_STACK" Bundle.steD A s s.heap) (hN : vx_Zq Bundle.tN "SUPPRESSED_SENTINEL" Bundle.listD A s s.heap) (hS : va_S A s.heap H locs) (hsize : ls.size = c.maxLocals)
    (d0 : decode cc pc = .ok (.new ik, 3)) (d3 : decode cc (pc + 3) = .ok (.dup, 1)) (d4 : decode cc (pc + 4) = .ok (.ldc is, 2)) (d6 : decode cc (pc + 6) = .ok (.invokespecial ic, 3)) (d9 : decode cc (pc + 9) = .ok (.athrow, 1))
    (hout : ∀ x ∈ c.exceptionTable.toList, covers x (pc + 9) = false)
    (hRframes : names.length + 3 < R.frames) (hRlocals : (rest.map fun v => v.category).sum + (13 * (names.length + 1) + 43) ≤ R.locals) (hRcells : cells + 1 ≤ R.cells) (hRslots : slots + 6 ≤ R.slots) (hlocks : meth.locks = false)
    (hx : ∀ t : State, s.vm.Alike t.vm → H.size ≤ t.heap.size → (∀ q : Nat, q < H.size → t.heap[q]? = H[q]?) → XC cls s t)
    (hf : ∀ z ∈ locs, free z.base) (hc : cells + 1 ≤ mc) (hs : slots + 6 ≤ ms) :
    W p l e R s m args below meth c H locs cells slots (vx_MQ below Qc XC args s mc ms free) (F0 m pc ls rest) := by
  intro T hT X
  have htr : e.platform.stackTraces = false := (show e.platform.stackTraces = l.stackTraces by rw [X.admits.platform]).trans hl
  have Y := vx_rebase X (R' := { frames := R.frames, locals := R.locals, cells := 1, slots := 6 }) (Nat.le_refl _) (Nat.le_refl _) hRcells hRslots
  obtain ⟨s', hA⟩ : ∃ z, z = (T.setVm s.vm).setFrames (.invoking m args :: below) := ⟨_, rfl⟩
  rw [← hA] at Y
  have hvm : s'.vm = s.vm := by rw [hA]; rfl
  have hhp : s'.heap = H := by rw [hA]; exact hT
  have hW0 : s.WarmedH s'.vm := by rw [hvm]; exact State.WarmedH.refl s
  have hat' : ∀ w ∈ vx_atS own ic cls names, w.before args s' = true := fun w hw => vx_ot_at hW0 hvm.symm (hgood w (List.mem_cons_of_mem _ (List.mem_cons_of_mem _ hw))) (hat w hw)
  have hk' : (Cond.classLink own ik cls).before args s' = true := vx_ot_at hW0 hvm.symm (hgood _ List.mem_cons_self) hk
  have hini' : (Cond.initialized cls).before args s' = true := vx_ot_at hW0 hvm.symm (hgood _ (List.mem_cons_of_mem _ List.mem_cons_self)) hini
  have hU' : vx_Zq Bundle.tN "UNASSIGNED_STACK" Bundle.steD A s' s'.heap := by rw [hhp]; exact vx_Zq.moved hW0.alike (hU.kept hS.2.1)
  have hN' : vx_Zq Bundle.tN "SUPPRESSED_SENTINEL" Bundle.listD A s' s'.heap := by rw [hhp]; exact vx_Zq.moved hW0.alike (hN.kept hS.2.1)
  have h : ∀ w ∈ Bundle.ownAtoms own ic cls names, w.before args s' = true := vx_own hat' (vx_isRefq hU'.1) (vx_isRefq hN'.1) hU'.2.word hN'.2.word
  have hown' : s'.vm.findClass own = some m.cls := by rw [hvm]; exact hown
  have hins : (Cond.instantiable cls 6).before args s' = true := h _ (by simp [Bundle.ownAtoms])
  obtain ⟨vm₁, cX, kX, hfX, hkX, -, -, X₁, st1⟩ := Y.newCold hexec (own := own) (C := cls) (index := ik) (n := 6) hown' hk' hins hini'
    (g := F0 m pc ls rest) rfl (by rw [hb]; exact d0) (Nat.le_refl _) (Nat.le_refl _)
  generalize hT1 : (T.setVm vm₁).pushCell { cls := cX, slots := kX.instanceTypes.map defaultValue, vm := .none } = T1 at X₁ st1
  have hcat : (Value.ref T.heap.size).category = 1 := rfl
  have hcellA : T1.heap[T.heap.size]? = some (freshCell cX kX) := by rw [← hT1]; exact State.heap_pushCell_size _ _
  have d3' : decode c.code (pc + 3) = .ok (.dup, 1) := by rw [hb]; exact d3
  have d4' : decode c.code (pc + 4) = .ok (.ldc is, 2) := by rw [hb]; exact d4
  have hstr' : vk_R own is text sa s' := vk_R.warm hW0 hstr
  obtain ⟨U, hsteps, hrun, hend, hW, hsame, ce, hce, hO⟩ := X₁.ctorThrowS hexec htr (own := own) (cls := cls) (names := names) (ic := ic) hown' hcls hnames h (fun x hx => nomatch hx) hfX hkX hcellA (by rw [hhp, hT]; exact Nat.le_refl _) (msg := .ref sa) rfl
    (g := { method := m, pc := pc + 6, locals := ls, stack := .ref sa :: .ref T.heap.size :: .ref T.heap.size :: rest, locked := none }) rfl hsize rfl rfl (rest := rest) rfl
    (by rw [hb]; exact d6) (by rw [hb]; exact d9) hout hRframes (by simp only [List.map_cons, List.sum_cons, hcat]; omega) hlocks
  obtain ⟨f1, f2⟩ := vx_frame hsame
  rw [hhp] at f1 f2
  have hWs : s.WarmedH U.vm := State.WarmedH.trans hW0 hW
  have hcl : s.vm.findClass cls = some ce.cls := by
    have h9 := hO.cls
    rw [hvm] at h9
    exact h9
  have hall : s.sameButNew ({ U with vm := s.vm } : State) locs mc ms := by
    subst hA
    obtain ⟨e1, e2⟩ := hsame
    rw [State.setFrames_setFrames] at e1
    have h2 : (T.setVm s.vm).sameButNew ({ U with vm := s.vm } : State) [] (0 + 1) (0 + 6) := ⟨e1, e2⟩
    have h3 := X.same.trans h2
    rw [List.append_nil] at h3
    exact h3.mono hc hs
  refine ⟨U, ?_, .threw T.heap.size, hrun, hend, Or.inr ⟨T.heap.size, rfl, cls, ce, locs, hx U hWs.alike f1 (fun q hq => f2 q hq (fun z hz => nomatch hz)), hce, hO.vm, hcl, hWs, hall, hf⟩⟩
  refine st1 _ ?_
  show Steps p.tables e below (T1.setTop { method := m, pc := pc + 3, locals := ls, stack := .ref T.heap.size :: rest, locked := none }) _
  jvm_step X₁.here [X₁.here.top, hexec, d3', Value.category]
  exact X₁.ldcString hexec (own := own) (text := text) (index := is) (a := sa) hown' hstr'.1 hstr'.2
    (g := { method := m, pc := pc + 4, locals := ls, stack := .ref T.heap.size :: .ref T.heap.size :: rest, locked := none }) rfl d4' _ hsteps
/-- 'throw new E("text")', the text by a wide index -/
theorem vx_throwSW {cc : ByteArray} {pc : Nat} (hexec : p.tables.exec = Jvm.exec) (hb : c.code = cc) (hl : l.stackTraces = false) {own cls text : String} {names : List String} {ik is ic mc ms sa : Nat} {A : Nat → Prop}
    (hown : s.vm.findClass own = some m.cls) (hcls : Bundle.fit cls = true) (hnames : ∀ n ∈ names, Bundle.fit n = true)
    (hk : (Cond.classLink own ik cls).before args s = true) (hini : (Cond.initialized cls).before args s = true) (hstr : vk_R own is text sa s) (hat : ∀ w ∈ vx_atS own ic cls names, w.before args s = true)
    (hgood : ∀ w ∈ Cond.classLink own ik cls :: Cond.initialized cls :: vx_atS own ic cls names, vx_ot w = true)
    (hU : vx_Zq Bundle.tN "UNASSIGNED_STACK" Bundle.steD A s s.heap) (hN : vx_Zq Bundle.tN "SUPPRESSED_SENTINEL" Bundle.listD A s s.heap) (hS : va_S A s.heap H locs) (hsize : ls.size = c.maxLocals)
    (d0 : decode cc pc = .ok (.new ik, 3)) (d3 : decode cc (pc + 3) = .ok (.dup, 1)) (d4 : decode cc (pc + 4) = .ok (.ldc_w is, 3)) (d7 : decode cc (pc + 7) = .ok (.invokespecial ic, 3)) (d10 : decode cc (pc + 10) = .ok (.athrow, 1))
    (hout : ∀ x ∈ c.exceptionTable.toList, covers x (pc + 10) = false)
    (hRframes : names.length + 3 < R.frames) (hRlocals : (rest.map fun v => v.category).sum + (13 * (names.length + 1) + 43) ≤ R.locals) (hRcells : cells + 1 ≤ R.cells) (hRslots : slots + 6 ≤ R.slots) (hlocks : meth.locks = false)
    (hx : ∀ t : State, s.vm.Alike t.vm → H.size ≤ t.heap.size → (∀ q : Nat, q < H.size → t.heap[q]? = H[q]?) → XC cls s t)
    (hf : ∀ z ∈ locs, free z.base) (hc : cells + 1 ≤ mc) (hs : slots + 6 ≤ ms) :
    W p l e R s m args below meth c H locs cells slots (vx_MQ below Qc XC args s mc ms free) (F0 m pc ls rest) := by
  intro T hT X
  have htr : e.platform.stackTraces = false := (show e.platform.stackTraces = l.stackTraces by rw [X.admits.platform]).trans hl
  have Y := vx_rebase X (R' := { frames := R.frames, locals := R.locals, cells := 1, slots := 6 }) (Nat.le_refl _) (Nat.le_refl _) hRcells hRslots
  obtain ⟨s', hA⟩ : ∃ z, z = (T.setVm s.vm).setFrames (.invoking m args :: below) := ⟨_, rfl⟩
  rw [← hA] at Y
  have hvm : s'.vm = s.vm := by rw [hA]; rfl
  have hhp : s'.heap = H := by rw [hA]; exact hT
  have hW0 : s.WarmedH s'.vm := by rw [hvm]; exact State.WarmedH.refl s
  have hat' : ∀ w ∈ vx_atS own ic cls names, w.before args s' = true := fun w hw => vx_ot_at hW0 hvm.symm (hgood w (List.mem_cons_of_mem _ (List.mem_cons_of_mem _ hw))) (hat w hw)
  have hk' : (Cond.classLink own ik cls).before args s' = true := vx_ot_at hW0 hvm.symm (hgood _ List.mem_cons_self) hk
  have hini' : (Cond.initialized cls).before args s' = true := vx_ot_at hW0 hvm.symm (hgood _ (List.mem_cons_of_mem _ List.mem_cons_self)) hini
  have hU' : vx_Zq Bundle.tN "UNASSIGNED_STACK" Bundle.steD A s' s'.heap := by rw [hhp]; exact vx_Zq.moved hW0.alike (hU.kept hS.2.1)
  have hN' : vx_Zq Bundle.tN "SUPPRESSED_SENTINEL" Bundle.listD A s' s'.heap := by rw [hhp]; exact vx_Zq.moved hW0.alike (hN.kept hS.2.1)
  have h : ∀ w ∈ Bundle.ownAtoms own ic cls names, w.before args s' = true := vx_own hat' (vx_isRefq hU'.1) (vx_isRefq hN'.1) hU'.2.word hN'.2.word
  have hown' : s'.vm.findClass own = some m.cls := by rw [hvm]; exact hown
  have hins : (Cond.instantiable cls 6).before args s' = true := h _ (by simp [Bundle.ownAtoms])
  obtain ⟨vm₁, cX, kX, hfX, hkX, -, -, X₁, st1⟩ := Y.newCold hexec (own := own) (C := cls) (index := ik) (n := 6) hown' hk' hins hini'
    (g := F0 m pc ls rest) rfl (by rw [hb]; exact d0) (Nat.le_refl _) (Nat.le_refl _)
  generalize hT1 : (T.setVm vm₁).pushCell { cls := cX, slots := kX.instanceTypes.map defaultValue, vm := .none } = T1 at X₁ st1
  have hcat : (Value.ref T.heap.size).category = 1 := rfl
  have hcellA : T1.heap[T.heap.size]? = some (freshCell cX kX) := by rw [← hT1]; exact State.heap_pushCell_size _ _
  have d3' : decode c.code (pc + 3) = .ok (.dup, 1) := by rw [hb]; exact d3
  have d4' : decode c.code (pc + 4) = .ok (.ldc_w is, 3) := by rw [hb]; exact d4
  have hstr' : vk_R own is text sa s' := vk_R.warm hW0 hstr
  obtain ⟨U, hsteps, hrun, hend, hW, hsame, ce, hce, hO⟩ := X₁.ctorThrowS hexec htr (own := own) (cls := cls) (names := names) (ic := ic) hown' hcls hnames h (fun x hx => nomatch hx) hfX hkX hcellA (by rw [hhp, hT]; exact Nat.le_refl _) (msg := .ref sa) rfl
    (g := { method := m, pc := pc + 7, locals := ls, stack := .ref sa :: .ref T.heap.size :: .ref T.heap.size :: rest, locked := none }) rfl hsize rfl rfl (rest := rest) rfl
    (by rw [hb]; exact d7) (by rw [hb]; exact d10) hout hRframes (by simp only [List.map_cons, List.sum_cons, hcat]; omega) hlocks
  obtain ⟨f1, f2⟩ := vx_frame hsame
  rw [hhp] at f1 f2
  have hWs : s.WarmedH U.vm := State.WarmedH.trans hW0 hW
  have hcl : s.vm.findClass cls = some ce.cls := by
    have h9 := hO.cls
    rw [hvm] at h9
    exact h9
  have hall : s.sameButNew ({ U with vm := s.vm } : State) locs mc ms := by
    subst hA
    obtain ⟨e1, e2⟩ := hsame
    rw [State.setFrames_setFrames] at e1
    have h2 : (T.setVm s.vm).sameButNew ({ U with vm := s.vm } : State) [] (0 + 1) (0 + 6) := ⟨e1, e2⟩
    have h3 := X.same.trans h2
    rw [List.append_nil] at h3
    exact h3.mono hc hs
  refine ⟨U, ?_, .threw T.heap.size, hrun, hend, Or.inr ⟨T.heap.size, rfl, cls, ce, locs, hx U hWs.alike f1 (fun q hq => f2 q hq (fun z hz => nomatch hz)), hce, hO.vm, hcl, hWs, hall, hf⟩⟩
  refine st1 _ ?_
  show Steps p.tables e below (T1.setTop { method := m, pc := pc + 3, locals := ls, stack := .ref T.heap.size :: rest, locked := none }) _
  jvm_step X₁.here [X₁.here.top, hexec, d3', Value.category]
  exact X₁.ldcStringW hexec (own := own) (text := text) (index := is) (a := sa) hown' hstr'.1 hstr'.2
    (g := { method := m, pc := pc + 4, locals := ls, stack := .ref T.heap.size :: .ref T.heap.size :: rest, locked := none }) rfl d4' _ hsteps
end Ends
section Bodies
variable {l : Launch}
theorem vx_ofW {y : MethodName} {ws ws' : List Cond} {rm : Room} {Pc : Array Value → State → Prop} {Qc : Array Value → State → Outcome → State → Prop} {XC : String → State → State → Prop} {mc ms : Nat} {free : Addr → Prop} {cc : ByteArray} {maxL : Nat} {ret : Option FieldType}
    (hy : plainName y.cls = true) (hw : ws = Cond.code y cc maxL ret :: ws')
    (body : ∀ p e s m args below meth c s₁, BodyLoose p l y (headSpec ws rm) cc maxL ret e s m args below meth c s₁ → c.maxLocals = maxL → (∀ x ∈ c.exceptionTable.toList, False) → Pc args s →
      W p l e (headSpec ws rm).room s m args below meth c s.heap [] 0 0 (vx_MQ below Qc XC args s mc ms free) (entryFrame m args maxL)) : vx_Met l y ws rm Pc Qc XC mc ms free := by
  refine MetFree.of_bodyS (code := cc) (maxLocals := maxL) (ret := ret) hy ?_ ?_
  · intro args s m h hn
    obtain ⟨meth, c, h1, h2, h3, h4, h5, h6, -, -⟩ := Cond.code_spec hn (atoms_spec (ws := ws) h _ (by rw [hw]; exact List.mem_cons_self))
    exact ⟨meth, c, h1, h2, h3, h4, h5, h6⟩
  · intro p e s m args below meth c s₁ B hml hP _
    have hh0 : s₁.heap = s.heap := by rw [B.state]; rfl
    have ht : ∀ x ∈ c.exceptionTable.toList, False := by
      obtain ⟨meth9, c9, h1, h2, -, -, -, -, h7, -⟩ := Cond.code_spec B.named (atoms_spec (ws := ws) B.pre _ (by rw [hw]; exact List.mem_cons_self))
      cases Option.some.inj (h1.symm.trans B.method)
      cases Option.some.inj (h2.symm.trans (Stand.of_body B).code)
      intro x hx
      rw [Array.isEmpty_iff.mp h7] at hx
      cases hx
    obtain ⟨t, a1, o, b1, b2, b3⟩ := body p e s m args below meth c s₁ B hml ht hP s₁ hh0 (Stand.of_body B)
    exact ⟨t, o, a1, b1, b2, b3⟩
/-- the table of a body with handlers -/
theorem vx_table {p : Program} {x y : MethodName} {S : Spec} {cc bytes : ByteArray} {maxL maxL' : Nat} {ret ret' : Option FieldType} {e : Env} {s s₁ : State} {m : MethodId} {args : Array Value} {below : List Frame} {meth : Method} {c : Code} {hh : List (Nat × Nat × Nat × Nat)}
    (B : BodyLoose p l y S cc maxL ret e s m args below meth c s₁) (h : (Cond.codeWith y bytes maxL' ret' hh).before args s = true) : c.exceptionTable.toList = tableOf hh := by
  obtain ⟨m9, meth9, c9, hn9, h1, h2, -, -, h6, -⟩ := Cond.codeWith_spec h
  cases Option.some.inj (hn9.symm.trans B.named)
  cases Option.some.inj (h1.symm.trans B.method)
  cases Option.some.inj (h2.symm.trans (Stand.of_body B).code)
  rw [← h6, table_eq]
end Bodies
end VXA
/-! ===== END ===== -/
/-! ===== BEGIN a static call of a method with an exception table ===== -/
section VXS
variable {p : Program} {l : Launch} {e : Env} {R : Room} {s : State} {m : MethodId} {args : Array Value} {below : List Frame} {meth : Method} {c : Code} {T : State} {H : Heap} {locs : List Loc} {cells slots : Nat}
abbrev vx_CSW (R : Room) (s : State) (args : Array Value) (own : String) (index : Nat) (y : MethodName) (bytes : ByteArray) (maxL : Nat) (ret : Option FieldType) (hh : List (Nat × Nat × Nat × Nat)) (ws : List Cond) (rm : Room) (mc ms n : Nat) : Prop :=
  (rm.cells = mc ∧ rm.slots = ms ∧ rm.frames + 1 ≤ R.frames ∧ 8 + (maxL + 11) + rm.locals ≤ R.locals ∧ (∀ w ∈ ws, ∀ (a' : Array Value) (U : State), s.WarmedH U.vm → w.before a' U = true) ∧ Cond.codeWith y bytes maxL ret hh ∈ ws) ∧
  (Cond.codeWith y bytes maxL ret hh).before args s = true ∧ (Cond.initialized y.cls).before args s = true ∧ (y.cls ≠ "java/lang/invoke/MethodHandle" ∧ y.cls ≠ "java/lang/invoke/VarHandle") ∧
  (∀ sig, parseMethodDescriptor y.desc = some sig → n = sig.parameters.length) ∧ (Cond.methodLink own index y).before args s = true ∧ (Cond.static y).before args s = true
theorem vx_cwSW {own : String} {index maxL mc ms : Nat} {y : MethodName} {bytes : ByteArray} {ret : Option FieldType} {hh : List (Nat × Nat × Nat × Nat)} {Ts ws ws' : List Cond} {rm : Room} (n : Nat) (ht : ∀ w ∈ Ts, w.before args s = true) (hT : GoodIn Ts (va_wsS own index y ws)) (hw : ws = Cond.codeWith y bytes maxL ret hh :: ws') (hrc : rm.cells = mc) (hrs : rm.slots = ms)
    (hd : y.cls ≠ "java/lang/invoke/MethodHandle" ∧ y.cls ≠ "java/lang/invoke/VarHandle" ∧ (parseMethodDescriptor y.desc).map (fun d => d.parameters.length) = some n) (hR : rm.frames + 1 ≤ R.frames ∧ 8 + (maxL + 11) + rm.locals ≤ R.locals) :
    vx_CSW R s args own index y bytes maxL ret hh ws rm mc ms n := by
  have ok : ∀ w ∈ va_wsS own index y ws, w.before args s = true := fun w h => ht w (hT w h).1
  have hG : GoodIn Ts ws := fun w h => hT w (by unfold va_wsS; exact List.mem_append_right _ h)
  have hc : Cond.codeWith y bytes maxL ret hh ∈ ws := by rw [hw]; exact List.mem_cons_self
  refine ⟨⟨hrc, hrs, hR.1, hR.2, pay_in ht hG, hc⟩, ht _ (hG _ hc).1, ok _ (by simp [va_wsS]), ⟨hd.1, hd.2.1⟩, fun sig h => ?_, ok _ (by simp [va_wsS]), ok _ (by simp [va_wsS])⟩
  have h2 := hd.2.2
  rw [h] at h2
  exact (Option.some.inj h2).symm
theorem vx_callSW (X : Stand p l e R s m args below meth c T locs cells slots) (hexec : p.tables.exec = Jvm.exec) {own : String} {index : Nat} {y : MethodName} {bytes : ByteArray} {maxL : Nat} {ret : Option FieldType} {hh : List (Nat × Nat × Nat × Nat)}
    (hown : s.vm.findClass own = some m.cls) (hlink : (Cond.methodLink own index y).before args s = true) (hstat : (Cond.static y).before args s = true) (hinit : (Cond.initialized y.cls).before args s = true)
    (hcode : (Cond.codeWith y bytes maxL ret hh).before args s = true) (hy : y.cls ≠ "java/lang/invoke/MethodHandle" ∧ y.cls ≠ "java/lang/invoke/VarHandle")
    {W9 : Nat} {Pre : Pt → Array Value → Prop} {Post : Pt → Array Value → Option Value → Pt → Prop} (hK : Back l R p e below s args y 3 W9 Pre Post)
    {g : JFrame} (hg : g.method = m) (hsize : g.locals.size = c.maxLocals) {argsL rest : List Value} (hlen : ∀ sig, parseMethodDescriptor y.desc = some sig → argsL.length = sig.parameters.length)
    (hstack : g.stack = argsL.reverse ++ rest) (hW : 2 * g.monitorRoom + (rest.map fun v => v.category).sum ≤ W9) (hdg : decode c.code g.pc = .ok (.invokestatic index, 3))
    (hpre : ∀ vm₁, s.WarmedH vm₁ → Pre ⟨T.setVm vm₁, locs, cells, slots⟩ argsL.toArray) :
    ∃ (v : Option Value) (vm₁ : Vm) (B : Pt), s.WarmedH vm₁ ∧ Stand p l e R s m args below meth c B.U B.locs B.cells B.slots ∧ Post ⟨T.setVm vm₁, locs, cells, slots⟩ argsL.toArray v B ∧
      ∀ target, Steps p.tables e below (B.U.setTop { g with pc := g.pc + 3, stack := v.toList ++ rest }) target → Steps p.tables e below (T.setTop g) target := by
  obtain ⟨mk, methM, cM, hnamed, hmethM, -, -, -, -, -, -, hsigM⟩ := Cond.codeWith_spec hcode
  have hstatic : methM.isStatic = true := Cond.static_spec hnamed hmethM hstat
  obtain ⟨kP, hkP, -⟩ := className_of_methodNamed hnamed
  have hinitP : kP.init = .initialized := Cond.initialized_spec (findClass_of_methodNamed hnamed) hkP hinit
  obtain ⟨vm₁, X₁, hstep₁⟩ := X.invokestatic hexec hown hlink hnamed hmethM hstatic hkP hinitP hy (g := g) hg (argsL := argsL) (rest := rest) (hlen _ hsigM) hstack hdg
  obtain ⟨v, B, X', hpost, hsteps⟩ := hK m meth c ⟨T.setVm vm₁, locs, cells, slots⟩ { g with stack := rest } (.invokestatic index) mk argsL.toArray X₁ hg hsize hdg hW (X₁.named hnamed) (hpre vm₁ X₁.warmed)
  exact ⟨v, vm₁, B, X₁.warmed, X', hpost, fun target h => hstep₁ _ fun acts => by rw [doInvoke_state]; exact hsteps.trans h⟩
theorem vx_runSW {y : MethodName} {bytes cc : ByteArray} {maxL nL mc ms n index : Nat} {ret : Option FieldType} {hh : List (Nat × Nat × Nat × Nat)} {ws : List Cond} {rm : Room} {Pc : Array Value → State → Prop} {Qc : Array Value → State → Outcome → State → Prop} {free : Addr → Prop} {Ts : List Cond} {own : String} {As rest : List Value} {g : JFrame}
    (S : CallFix p m c cc nL s args Ts own) (hM : Met l y ws rm Pc Qc mc ms free) (cw : vx_CSW R s args own index y bytes maxL ret hh ws rm mc ms n) (hp : PreS s H Pc As)
    (hg : g.method = m) (hn : As.length = n) (hsize : g.locals.size = nL) (hstack : g.stack = As.reverse ++ rest) (hW : 2 * g.monitorRoom + (rest.map fun v => v.category).sum ≤ 8) (hdg : decode cc g.pc = .ok (.invokestatic index, 3)) (hf : cells + mc ≤ R.cells ∧ slots + ms ≤ R.slots) :
    va_Run p l e R s m args below meth c H locs cells slots mc ms g rest (Qc As.toArray) (free) := by
  obtain ⟨⟨hrc, hrs, hfr, hlo, hws, hcw⟩, hcode, hini, hy, hlen, hl, hstt⟩ := cw
  have hK : Back l R p e below s args y 3 8 (PreOf R mc ms Pc) (PostOf Qc mc ms free) := va_backW (hh := hh) (bytes := bytes) (maxL := maxL) (ret := ret) hM hp.1 hrc hrs hfr hlo hws hcw (fun a' U hW => word_at hW (Or.inl (by first | rfl | simp [Cond.onTables, Cond.keeps, Cond.steady])) hini)
  obtain ⟨hx, hb, hml, ho, -⟩ := S
  intro T hT X
  obtain ⟨v, vm₁, ⟨U', l2, c2, s2⟩, hW₁, X', ⟨g', mk, t, L, e1, e2, hq, h1, hL, h2, h3⟩, st⟩ := vx_callSW X hx (hh := hh) (bytes := bytes) (maxL := maxL) (ret := ret) ho hl hstt hini hcode hy hK hg (hsize.trans hml.symm) (argsL := As) (rest := rest) (fun sig h => hn.trans (hlen sig h)) hstack hW (by rw [hb]; exact hdg)
    (fun vm₁ hW₁ => ⟨hf.1, hf.2, hp.2 (T.setVm vm₁) hT hW₁⟩)
  dsimp only [Pt.U, Pt.locs, Pt.cells, Pt.slots] at X' e1 e2 h1 h2 h3 st
  subst h1; subst h2; subst h3
  exact ⟨v, (T.setVm vm₁).calling g' mk As.toArray, t, U', L, hT, X', hL, e1, e2, hq, st⟩
/-- not caught here, past rows that name other classes: it goes on to the caller -/
theorem vx_outP {p : Program} {l : Launch} {e : Env} {R : Room} {s : State} {m : MethodId} {args : Array Value} {below : List Frame} {meth : Method} {c : Code} {H : Heap} {locs : List Loc} {cells slots : Nat} {free : Addr → Prop} {ls : Array Slot} {rest : List Value} {Qc : Array Value → State → Outcome → State → Prop} {XC : String → State → State → Prop}
    {pc : Nat} {own E : String} {ce : Cell} {q : Addr} {mc ms : Nat} (hown : s.vm.findClass own = some m.cls) (hlocks : meth.locks = false)
    (hpass : ∀ z ∈ c.exceptionTable.toList, covers z pc = false ∨ (z.catchType ≠ 0 ∧ ∃ nm : String, (Cond.classLink own z.catchType nm).before args s = true ∧ va_Nc E nm s)) (hcell : H[q]? = some ce) (hv : ce.vm = .none) (hcl : s.vm.findClass E = some ce.cls)
    (hx : ∀ t : State, t.heap = H → s.vm.Alike t.vm → XC E s t) (hf : ∀ z ∈ locs, free z.base) (hc : cells ≤ mc) (hs : slots ≤ ms) :
    vx_W p l e R s m args below meth c H locs cells slots (vx_MQ below Qc XC args s mc ms free) (F0 m pc ls rest) q := by
  intro T hT X
  have hpl : e.platform.magicAccessors = ({} : Platform).magicAccessors := by rw [X.admits.platform]
  obtain ⟨vm', hW', X', st⟩ := X.outThrough hlocks q (g := F0 m pc ls rest) rfl rfl rfl (cell := ce) (by rw [hT]; exact hcell) (by rw [hv]; rfl)
    (by obtain ⟨k9, h9, -⟩ := Vm.findClass_spec hcl; exact ⟨k9, h9⟩) (fun z hz => by
      rcases hpass z hz with h | ⟨hz0, nm, hl1, hn1⟩
      · exact Or.inl h
      · obtain ⟨c6, hc6, hcl6⟩ := Cond.classLink_spec hown hl1 e.platform hpl
        obtain ⟨a8, b8, h1, h2, h3⟩ := hn1
        cases Option.some.inj (h1.symm.trans hcl)
        cases Option.some.inj (h2.symm.trans hc6)
        exact Or.inr ⟨hz0, _, hcl6, h3⟩)
  obtain ⟨g₀, hfr⟩ := X'.frames_eq
  have hcell9 : ((T.setVm vm').setFrames (.throwing q :: below)).heap[q]? = some ce := by
    show T.heap[q]? = some ce
    rw [hT]; exact hcell
  have hend : Ended ((T.setVm vm').setFrames (.throwing q :: below)) below (.threw q) := State.frames_setFrames _ (State.cur_lt_of_frames hfr)
  refine ⟨(T.setVm vm').setFrames (.throwing q :: below), ?_, .threw q, X'.here.running, hend, Or.inr ⟨q, rfl, E, ce, locs, hx _ hT (X'.ends _).1.alike, hcell9, hv, hcl, (X'.ends _).1, (X'.ends _).2.mono hc hs, hf⟩⟩
  rw [X.pushThrowing_eq]
  exact st
/-- a thing of a world lies in the heap -/
theorem vx_lt {D : va_G} {cl : List vw_C} {ws : va_W} {H1 : Heap} (h : va_P D cl ws H1) {k : Nat} {q : Nat × va_E} (hk : ws[k]? = some q) : q.1 < H1.size := (h k q hk).lt
end VXS
/-! ===== END ===== -/
/-! ===== BEGIN methods with a table of their own: called by a name, returning or throwing ===== -/
section VXH
/-! vx_backW, vx_callVX, vx_callSX, vx_callVW, vx_runVW, vx_runVX, vx_runSX, vx_ofWH follow the same proofs as their sisters above (Free/Laws.lean, Shelf42/LK1.lean); vx_outP calls Shelf42/NT130.lean (outThrough). -/
section
variable {l : Launch} {R : Room} {p : Program} {e : Env} {below : List Frame} {s : State} {sargs : Array Value} {y : MethodName} {len W9 : Nat}
theorem vx_backW {ws : List Cond} {rm : Room} {Pc : Array Value → State → Prop} {Qc : Array Value → State → Outcome → State → Prop} {XC : String → State → State → Prop} {mc ms : Nat} {free : Addr → Prop} {bytes : ByteArray} {maxL : Nat} {ret : Option FieldType} {hh : List (Nat × Nat × Nat × Nat)}
    (hM : vx_Met l y ws rm Pc Qc XC mc ms free) (hblind : FrameBlind Pc) (hrc : rm.cells = mc) (hrs : rm.slots = ms)
    (hframes : rm.frames + 1 ≤ R.frames) (hlocals : W9 + (maxL + 11) + rm.locals ≤ R.locals)
    (hws : ∀ w ∈ ws, ∀ a' U, s.WarmedH U.vm → w.before a' U = true) (hcode : Cond.codeWith y bytes maxL ret hh ∈ ws) (hinit : ∀ a' U, s.WarmedH U.vm → (Cond.initialized y.cls).before a' U = true) :
    vx_Back l R p e below s sargs y len W9 (PreOf R mc ms Pc) (PostOf Qc mc ms free) (vx_Post XC mc ms free) := by
  intro m meth c A g ig mk a X hg hsize hdg hW hn hp
  have h1 : (headSpec ws rm).pre.before a A.U = true := atoms_intro fun w hw => hws w hw _ _ X.warmed
  have h2 : (Cond.codeWith y bytes maxL ret hh).before a A.U = true := hws _ hcode _ _ X.warmed
  have h3 : (Cond.initialized y.cls).before a A.U = true := hinit _ _ X.warmed
  have h4 : A.cells + (headSpec ws rm).room.cells ≤ R.cells := by rw [show (headSpec ws rm).room.cells = mc from hrc]; exact hp.1
  have h5 : A.slots + (headSpec ws rm).room.slots ≤ R.slots := by rw [show (headSpec ws rm).room.slots = ms from hrs]; exact hp.2.1
  have hPc : Pc a (A.U.calling g mk a) := hblind _ _ _ _ hp.2.2
  obtain ⟨U, Ls, c0, s0⟩ := A
  dsimp only [Pt.U, Pt.locs, Pt.cells, Pt.slots] at h1 h2 h3 h4 h5 X hn hPc ⊢
  obtain ⟨m9, methY, cY, hn9, hmY, hcY, -, hlY, -⟩ := Cond.codeWith_spec h2
  cases Option.some.inj (hn9.symm.trans hn)
  obtain ⟨kY, hkY, -⟩ := className_of_methodNamed hn
  have hinitY : kY.init = .initialized := Cond.initialized_spec (findClass_of_methodNamed hn) hkY h3
  have h : At U g.method c below := by rw [hg]; exact X.here
  have hlocals9 : W9 + (maxL + 11) + (headSpec ws rm).room.locals ≤ R.locals := hlocals
  have happ : (headSpec ws rm).appliesLoose y e.platform (U.calling g mk a) = true :=
    Spec.appliesLoose_calling (g := g) h hdg hn hkY hinitY
      (X.room_calling (g := g) (R' := (headSpec ws rm).room) hsize hmY hcY hframes (by rw [hlY]; omega) h4 h5) h1
  obtain ⟨mid, hmid⟩ := h.above
  have hfr : (U.setTop g).frames = (.java g :: mid) ++ below := by rw [State.frames_setTop' g h.top, hmid]; rfl
  obtain ⟨o, s₂, hsteps, -, hend, hq⟩ := Steps.callFree hM p X.admits X.cas X.clock (acts := []) hfr happ hPc trivial
  have hq' : vx_Q Qc XC mc ms free a (U.calling g mk a) o s₂ := hq
  rw [State.frames_setTop' g h.top] at hend
  obtain ⟨g₀, hg0⟩ := Option.isSome_iff_exists.mp h.top
  obtain ⟨r, hr⟩ := State.topJava?_eq_some.mp hg0
  have hr' : (({ U with heap := s₂.heap, slotsUsed := s₂.slotsUsed } : State).setVm s₂.vm).frames = .java g₀ :: r := hr
  rcases hq' with ⟨hqc, L, hfe, hL⟩ | ⟨q, rfl, E, ce, L, hx, hce, hcv, hcl, hW₂, hsm, hL⟩
  · obtain ⟨⟨v, rfl⟩, hW₂, e2, q2, q3, q4, q5, q6⟩ := id hfe
    have e3 : s₂ = ({ (U.calling g mk a).setFrames s₂.frames with heap := s₂.heap, slotsUsed := s₂.slotsUsed } : State).setVm s₂.vm := by
      have : s₂ = ({ s₂ with vm := (U.calling g mk a).vm } : State).setVm s₂.vm := rfl
      rw [e2] at this
      exact this
    obtain ⟨c₂, i₂, len₂, hc₂, hd₂, hf₂⟩ := hend
    have hW' : U.WarmedH s₂.vm := hW₂
    have hcc : c₂ = c := by
      have h1 : s₂.code? g.method = U.code? g.method := by
        rw [State.code?_eq, State.code?_eq, hW'.alike.method?]
      exact Option.some.inj (hc₂.symm.trans (h1.trans h.code))
    subst hcc
    have hlen : len₂ = len := by rw [hdg] at hd₂; cases hd₂; rfl
    subst hlen
    have hs₂ : s₂ = (({ U with heap := s₂.heap, slotsUsed := s₂.slotsUsed } : State).setVm s₂.vm).setTop { g with pc := g.pc + len₂, stack := v.toList ++ g.stack } := by
      refine e3.trans ?_
      rw [hf₂, State.calling_eq h.top, State.setFrames_setFrames, State.setTop_of_frames _ hr', hr]
      rfl
    have hsame : U.sameButNew ({ U with heap := s₂.heap, slotsUsed := s₂.slotsUsed } : State) L mc ms := by
      refine ⟨?_, q2, q3, q4, q5, q6⟩
      obtain ⟨t, ht, -⟩ := State.frames_cons hr
      show ({ U with heap := s₂.heap, slotsUsed := s₂.slotsUsed } : State) = { U.setFrames U.frames with heap := s₂.heap, slotsUsed := s₂.slotsUsed }
      rw [State.setFrames_self ht]
    subst hg
    refine Or.inl ⟨v, ⟨(({ U with heap := s₂.heap, slotsUsed := s₂.slotsUsed } : State).setVm s₂.vm), Ls ++ L, c0 + mc, s0 + ms⟩,
      ⟨X.admits, X.cas, X.clock, X.frames, X.room, X.hears, X.method, X.code, (X.here.setHeapUsed s₂.heap s₂.slotsUsed).setVm hW'.alike, X.tail, State.WarmedH.trans X.warmed hW', X.limits, X.bytes, X.same.trans (hsame.setVm s.vm)⟩,
      ⟨g, mk, s₂, L, rfl, rfl, hqc, rfl, hL, rfl, rfl⟩, ?_⟩
    show Steps p.tables e below _ ((({ U with heap := s₂.heap, slotsUsed := s₂.slotsUsed } : State).setVm s₂.vm).setTop { g with pc := g.pc + len₂, stack := v.toList ++ g.stack })
    rw [← hs₂]
    exact hsteps
  · obtain ⟨e2, q2, q3, q4, q5, q6⟩ := id hsm
    have e3 : s₂ = ({ (U.calling g mk a).setFrames s₂.frames with heap := s₂.heap, slotsUsed := s₂.slotsUsed } : State).setVm s₂.vm := by
      have : s₂ = ({ s₂ with vm := (U.calling g mk a).vm } : State).setVm s₂.vm := rfl
      rw [e2] at this
      exact this
    have hf₂ : s₂.frames = .throwing q :: .java g :: U.frames.tail := hend
    have hW' : U.WarmedH s₂.vm := hW₂
    have hs₂ : s₂ = ((({ U with heap := s₂.heap, slotsUsed := s₂.slotsUsed } : State).setVm s₂.vm).setTop g).pushFrame (.throwing q) := by
      refine e3.trans ?_
      rw [hf₂, State.calling_eq h.top, State.setFrames_setFrames, State.pushFrame, State.frames_setTop _ hr', State.setTop_of_frames _ hr', State.setFrames_setFrames, hr]
      rfl
    have hsame : U.sameButNew ({ U with heap := s₂.heap, slotsUsed := s₂.slotsUsed } : State) L mc ms := by
      refine ⟨?_, q2, q3, q4, q5, q6⟩
      obtain ⟨t, ht, -⟩ := State.frames_cons hr
      show ({ U with heap := s₂.heap, slotsUsed := s₂.slotsUsed } : State) = { U.setFrames U.frames with heap := s₂.heap, slotsUsed := s₂.slotsUsed }
      rw [State.setFrames_self ht]
    subst hg
    refine Or.inr ⟨q, ⟨(({ U with heap := s₂.heap, slotsUsed := s₂.slotsUsed } : State).setVm s₂.vm), Ls ++ L, c0 + mc, s0 + ms⟩,
      ⟨X.admits, X.cas, X.clock, X.frames, X.room, X.hears, X.method, X.code, (X.here.setHeapUsed s₂.heap s₂.slotsUsed).setVm hW'.alike, X.tail, State.WarmedH.trans X.warmed hW', X.limits, X.bytes, X.same.trans (hsame.setVm s.vm)⟩,
      ⟨g, mk, s₂, L, E, ce, rfl, rfl, hx, hce, hcv, hcl, rfl, hL, rfl, rfl⟩, ?_⟩
    show Steps p.tables e below _ (((({ U with heap := s₂.heap, slotsUsed := s₂.slotsUsed } : State).setVm s₂.vm).setTop g).pushFrame (.throwing q))
    rw [← hs₂]
    exact hsteps
end
variable {p : Program} {l : Launch} {e : Env} {R : Room} {s : State} {m : MethodId} {args : Array Value} {below : List Frame} {meth : Method} {c : Code} {T : State} {H : Heap} {locs : List Loc} {cells slots : Nat}
theorem vx_callVX (X : Stand p l e R s m args below meth c T locs cells slots) (hexec : p.tables.exec = Jvm.exec) {own C : String} {index : Nat} {y : MethodName} {bytes : ByteArray} {maxL : Nat} {ret : Option FieldType} {hh : List (Nat × Nat × Nat × Nat)}
    (hown : s.vm.findClass own = some m.cls) (hlink : (Cond.methodLink own index y).before args s = true) (hinst : (Cond.instanceMethod y).before args s = true) (hsel : (Cond.selects C y y).before args s = true)
    (hcode : (Cond.codeWith y bytes maxL ret hh).before args s = true) (hy : y.cls ≠ "java/lang/invoke/MethodHandle" ∧ y.cls ≠ "java/lang/invoke/VarHandle")
    {W9 : Nat} {Pre : Pt → Array Value → Prop} {Post : Pt → Array Value → Option Value → Pt → Prop} {PostX : Pt → Array Value → Addr → Pt → Prop} (hK : vx_Back l R p e below s args y 3 W9 Pre Post PostX)
    {b : Addr} {cellB : Cell} (hcell : T.heap[b]? = some cellB) (hobj : cellB.vm.isStatics = false) (hcls : s.vm.findClass C = some cellB.cls)
    {g : JFrame} (hg : g.method = m) (hsize : g.locals.size = c.maxLocals) {argsL rest : List Value} (hlen : ∀ sig, parseMethodDescriptor y.desc = some sig → argsL.length = sig.parameters.length)
    (hstack : g.stack = argsL.reverse ++ .ref b :: rest) (hW : 2 * g.monitorRoom + (rest.map fun v => v.category).sum ≤ W9) (hdg : decode c.code g.pc = .ok (.invokevirtual index, 3))
    (hpre : ∀ vm₁, s.WarmedH vm₁ → Pre ⟨T.setVm vm₁, locs, cells, slots⟩ (Value.ref b :: argsL).toArray) :
    (∃ (v : Option Value) (vm₁ : Vm) (B : Pt), s.WarmedH vm₁ ∧ Stand p l e R s m args below meth c B.U B.locs B.cells B.slots ∧ Post ⟨T.setVm vm₁, locs, cells, slots⟩ (Value.ref b :: argsL).toArray v B ∧
      ∀ target, Steps p.tables e below (B.U.setTop { g with pc := g.pc + 3, stack := v.toList ++ rest }) target → Steps p.tables e below (T.setTop g) target) ∨
    (∃ (q : Addr) (vm₁ : Vm) (B : Pt), s.WarmedH vm₁ ∧ Stand p l e R s m args below meth c B.U B.locs B.cells B.slots ∧ PostX ⟨T.setVm vm₁, locs, cells, slots⟩ (Value.ref b :: argsL).toArray q B ∧
      Steps p.tables e below (T.setTop g) ((B.U.setTop { g with stack := rest }).pushFrame (.throwing q))) := by
  obtain ⟨mk, methM, hnamed, hmethM, hstM, habM⟩ := Cond.instanceMethod_spec hinst
  obtain ⟨m8, methM', cM, hn8, hmethM', -, -, -, -, -, -, hsigM⟩ := Cond.codeWith_spec hcode
  cases Option.some.inj (hn8.symm.trans hnamed)
  cases hmethM.symm.trans hmethM'
  obtain ⟨c2, r2, m2, q1, q2, q3, q4, kP, hkP, hkPi⟩ := Cond.selects_spec hsel
  cases hcls.symm.trans q1
  cases (State.methodFound?_of_named hnamed hy).symm.trans q2
  cases hnamed.symm.trans q3
  have hselP : selectMethod e.platform s.vm cellB.cls mk = .method mk := by rw [Launch.admits_selectMethod X.admits]; exact q4
  obtain ⟨vm₁, X₁, hstep₁⟩ := X.invokevirtual hexec hown hlink hnamed hmethM hstM hkP hkPi hy (a := b) (cell := cellB) hcell
    (fun z h => by rw [h] at hobj; cases hobj) hselP hmethM habM hkP hkPi (g := g) hg (argsL := argsL) (rest := rest) (hlen _ hsigM) hstack hdg
  rcases hK m meth c ⟨T.setVm vm₁, locs, cells, slots⟩ { g with stack := rest } (.invokevirtual index) mk (Value.ref b :: argsL).toArray X₁ hg hsize hdg hW (X₁.named hnamed) (hpre vm₁ X₁.warmed) with ⟨v, B, X', hpost, hsteps⟩ | ⟨q, B, X', hpost, hsteps⟩
  · exact Or.inl ⟨v, vm₁, B, X₁.warmed, X', hpost, fun target h => hstep₁ _ fun acts => by rw [doInvoke_state]; exact hsteps.trans h⟩
  · exact Or.inr ⟨q, vm₁, B, X₁.warmed, X', hpost, hstep₁ _ fun acts => by rw [doInvoke_state]; exact hsteps⟩
theorem vx_callSX (X : Stand p l e R s m args below meth c T locs cells slots) (hexec : p.tables.exec = Jvm.exec) {own : String} {index : Nat} {y : MethodName} {bytes : ByteArray} {maxL : Nat} {ret : Option FieldType} {hh : List (Nat × Nat × Nat × Nat)}
    (hown : s.vm.findClass own = some m.cls) (hlink : (Cond.methodLink own index y).before args s = true) (hstat : (Cond.static y).before args s = true) (hinit : (Cond.initialized y.cls).before args s = true)
    (hcode : (Cond.codeWith y bytes maxL ret hh).before args s = true) (hy : y.cls ≠ "java/lang/invoke/MethodHandle" ∧ y.cls ≠ "java/lang/invoke/VarHandle")
    {W9 : Nat} {Pre : Pt → Array Value → Prop} {Post : Pt → Array Value → Option Value → Pt → Prop} {PostX : Pt → Array Value → Addr → Pt → Prop} (hK : vx_Back l R p e below s args y 3 W9 Pre Post PostX)
    {g : JFrame} (hg : g.method = m) (hsize : g.locals.size = c.maxLocals) {argsL rest : List Value} (hlen : ∀ sig, parseMethodDescriptor y.desc = some sig → argsL.length = sig.parameters.length)
    (hstack : g.stack = argsL.reverse ++ rest) (hW : 2 * g.monitorRoom + (rest.map fun v => v.category).sum ≤ W9) (hdg : decode c.code g.pc = .ok (.invokestatic index, 3))
    (hpre : ∀ vm₁, s.WarmedH vm₁ → Pre ⟨T.setVm vm₁, locs, cells, slots⟩ argsL.toArray) :
    (∃ (v : Option Value) (vm₁ : Vm) (B : Pt), s.WarmedH vm₁ ∧ Stand p l e R s m args below meth c B.U B.locs B.cells B.slots ∧ Post ⟨T.setVm vm₁, locs, cells, slots⟩ argsL.toArray v B ∧
      ∀ target, Steps p.tables e below (B.U.setTop { g with pc := g.pc + 3, stack := v.toList ++ rest }) target → Steps p.tables e below (T.setTop g) target) ∨
    (∃ (q : Addr) (vm₁ : Vm) (B : Pt), s.WarmedH vm₁ ∧ Stand p l e R s m args below meth c B.U B.locs B.cells B.slots ∧ PostX ⟨T.setVm vm₁, locs, cells, slots⟩ argsL.toArray q B ∧
      Steps p.tables e below (T.setTop g) ((B.U.setTop { g with stack := rest }).pushFrame (.throwing q))) := by
  obtain ⟨mk, methM, cM, hnamed, hmethM, -, -, -, -, -, -, hsigM⟩ := Cond.codeWith_spec hcode
  have hstatic : methM.isStatic = true := Cond.static_spec hnamed hmethM hstat
  obtain ⟨kP, hkP, -⟩ := className_of_methodNamed hnamed
  have hinitP : kP.init = .initialized := Cond.initialized_spec (findClass_of_methodNamed hnamed) hkP hinit
  obtain ⟨vm₁, X₁, hstep₁⟩ := X.invokestatic hexec hown hlink hnamed hmethM hstatic hkP hinitP hy (g := g) hg (argsL := argsL) (rest := rest) (hlen _ hsigM) hstack hdg
  rcases hK m meth c ⟨T.setVm vm₁, locs, cells, slots⟩ { g with stack := rest } (.invokestatic index) mk argsL.toArray X₁ hg hsize hdg hW (X₁.named hnamed) (hpre vm₁ X₁.warmed) with ⟨v, B, X', hpost, hsteps⟩ | ⟨q, B, X', hpost, hsteps⟩
  · exact Or.inl ⟨v, vm₁, B, X₁.warmed, X', hpost, fun target h => hstep₁ _ fun acts => by rw [doInvoke_state]; exact hsteps.trans h⟩
  · exact Or.inr ⟨q, vm₁, B, X₁.warmed, X', hpost, hstep₁ _ fun acts => by rw [doInvoke_state]; exact hsteps⟩
theorem vx_callVW (X : Stand p l e R s m args below meth c T locs cells slots) (hexec : p.tables.exec = Jvm.exec) {own C : String} {index : Nat} {y : MethodName} {bytes : ByteArray} {maxL : Nat} {ret : Option FieldType} {hh : List (Nat × Nat × Nat × Nat)}
    (hown : s.vm.findClass own = some m.cls) (hlink : (Cond.methodLink own index y).before args s = true) (hinst : (Cond.instanceMethod y).before args s = true) (hsel : (Cond.selects C y y).before args s = true)
    (hcode : (Cond.codeWith y bytes maxL ret hh).before args s = true) (hy : y.cls ≠ "java/lang/invoke/MethodHandle" ∧ y.cls ≠ "java/lang/invoke/VarHandle")
    {W9 : Nat} {Pre : Pt → Array Value → Prop} {Post : Pt → Array Value → Option Value → Pt → Prop} (hK : Back l R p e below s args y 3 W9 Pre Post)
    {b : Addr} {cellB : Cell} (hcell : T.heap[b]? = some cellB) (hobj : cellB.vm.isStatics = false) (hcls : s.vm.findClass C = some cellB.cls)
    {g : JFrame} (hg : g.method = m) (hsize : g.locals.size = c.maxLocals) {argsL rest : List Value} (hlen : ∀ sig, parseMethodDescriptor y.desc = some sig → argsL.length = sig.parameters.length)
    (hstack : g.stack = argsL.reverse ++ .ref b :: rest) (hW : 2 * g.monitorRoom + (rest.map fun v => v.category).sum ≤ W9) (hdg : decode c.code g.pc = .ok (.invokevirtual index, 3))
    (hpre : ∀ vm₁, s.WarmedH vm₁ → Pre ⟨T.setVm vm₁, locs, cells, slots⟩ (Value.ref b :: argsL).toArray) :
    ∃ (v : Option Value) (vm₁ : Vm) (B : Pt), s.WarmedH vm₁ ∧ Stand p l e R s m args below meth c B.U B.locs B.cells B.slots ∧ Post ⟨T.setVm vm₁, locs, cells, slots⟩ (Value.ref b :: argsL).toArray v B ∧
      ∀ target, Steps p.tables e below (B.U.setTop { g with pc := g.pc + 3, stack := v.toList ++ rest }) target → Steps p.tables e below (T.setTop g) target := by
  obtain ⟨mk, methM, hnamed, hmethM, hstM, habM⟩ := Cond.instanceMethod_spec hinst
  obtain ⟨m8, methM', cM, hn8, hmethM', -, -, -, -, -, -, hsigM⟩ := Cond.codeWith_spec hcode
  cases Option.some.inj (hn8.symm.trans hnamed)
  cases hmethM.symm.trans hmethM'
  obtain ⟨c2, r2, m2, q1, q2, q3, q4, kP, hkP, hkPi⟩ := Cond.selects_spec hsel
  cases hcls.symm.trans q1
  cases (State.methodFound?_of_named hnamed hy).symm.trans q2
  cases hnamed.symm.trans q3
  have hselP : selectMethod e.platform s.vm cellB.cls mk = .method mk := by rw [Launch.admits_selectMethod X.admits]; exact q4
  obtain ⟨vm₁, X₁, hstep₁⟩ := X.invokevirtual hexec hown hlink hnamed hmethM hstM hkP hkPi hy (a := b) (cell := cellB) hcell
    (fun z h => by rw [h] at hobj; cases hobj) hselP hmethM habM hkP hkPi (g := g) hg (argsL := argsL) (rest := rest) (hlen _ hsigM) hstack hdg
  obtain ⟨v, B, X', hpost, hsteps⟩ := hK m meth c ⟨T.setVm vm₁, locs, cells, slots⟩ { g with stack := rest } (.invokevirtual index) mk (Value.ref b :: argsL).toArray X₁ hg hsize hdg hW (X₁.named hnamed) (hpre vm₁ X₁.warmed)
  exact ⟨v, vm₁, B, X₁.warmed, X', hpost, fun target h => hstep₁ _ fun acts => by rw [doInvoke_state]; exact hsteps.trans h⟩
abbrev vx_CVW (R : Room) (s : State) (args : Array Value) (own C : String) (index : Nat) (y : MethodName) (bytes : ByteArray) (maxL : Nat) (ret : Option FieldType) (hh : List (Nat × Nat × Nat × Nat)) (ws : List Cond) (rm : Room) (mc ms n : Nat) : Prop :=
  (rm.cells = mc ∧ rm.slots = ms ∧ rm.frames + 1 ≤ R.frames ∧ 8 + (maxL + 11) + rm.locals ≤ R.locals ∧ (∀ w ∈ ws, ∀ (a' : Array Value) (U : State), s.WarmedH U.vm → w.before a' U = true) ∧ Cond.codeWith y bytes maxL ret hh ∈ ws) ∧
  (Cond.codeWith y bytes maxL ret hh).before args s = true ∧ (Cond.initialized y.cls).before args s = true ∧ (y.cls ≠ "java/lang/invoke/MethodHandle" ∧ y.cls ≠ "java/lang/invoke/VarHandle") ∧
  (∀ sig, parseMethodDescriptor y.desc = some sig → n = sig.parameters.length) ∧ (Cond.methodLink own index y).before args s = true ∧ (Cond.instanceMethod y).before args s = true ∧ (Cond.selects C y y).before args s = true
theorem vx_cwVW {own C : String} {index maxL mc ms : Nat} {y : MethodName} {bytes : ByteArray} {ret : Option FieldType} {hh : List (Nat × Nat × Nat × Nat)} {Ts ws ws' : List Cond} {rm : Room} (n : Nat) (ht : ∀ w ∈ Ts, w.before args s = true) (hT : GoodIn Ts (wsV own index C y ws)) (hw : ws = Cond.codeWith y bytes maxL ret hh :: ws') (hrc : rm.cells = mc) (hrs : rm.slots = ms)
    (hd : y.cls = C ∧ y.cls ≠ "java/lang/invoke/MethodHandle" ∧ y.cls ≠ "java/lang/invoke/VarHandle" ∧ (parseMethodDescriptor y.desc).map (fun d => d.parameters.length) = some n) (hR : rm.frames + 1 ≤ R.frames ∧ 8 + (maxL + 11) + rm.locals ≤ R.locals) :
    vx_CVW R s args own C index y bytes maxL ret hh ws rm mc ms n := by
  obtain ⟨hC, hd⟩ := hd
  subst hC
  have ok : ∀ w ∈ wsV own index y.cls y ws, w.before args s = true := fun w h => ht w (hT w h).1
  have hG : GoodIn Ts ws := fun w h => hT w (by unfold wsV; exact List.mem_append_right _ h)
  have hc : Cond.codeWith y bytes maxL ret hh ∈ ws := by rw [hw]; exact List.mem_cons_self
  refine ⟨⟨hrc, hrs, hR.1, hR.2, pay_in ht hG, hc⟩, ht _ (hG _ hc).1, ok _ (by simp [wsV]), ⟨hd.1, hd.2.1⟩, fun sig h => ?_, ok _ (by simp [wsV]), ok _ (by simp [wsV]), ok _ (by simp [wsV])⟩
  have h2 := hd.2.2
  rw [h] at h2
  exact (Option.some.inj h2).symm
theorem vx_runVW {y : MethodName} {bytes cc : ByteArray} {maxL nL mc ms n index : Nat} {ret : Option FieldType} {hh : List (Nat × Nat × Nat × Nat)} {ws : List Cond} {rm : Room} {Pc : Array Value → State → Prop} {Qc : Array Value → State → Outcome → State → Prop} {free : Addr → Prop} {Ts : List Cond} {own C : String} {b : Addr} {As rest : List Value} {g : JFrame}
    (S : CallFix p m c cc nL s args Ts own) (hM : Met l y ws rm Pc Qc mc ms free) (cw : vx_CVW R s args own C index y bytes maxL ret hh ws rm mc ms n) (hp : PreV s H C b Pc As)
    (hg : g.method = m) (hn : As.length = n) (hsize : g.locals.size = nL) (hstack : g.stack = As.reverse ++ .ref b :: rest) (hW : 2 * g.monitorRoom + (rest.map fun v => v.category).sum ≤ 8) (hdg : decode cc g.pc = .ok (.invokevirtual index, 3)) (hf : cells + mc ≤ R.cells ∧ slots + ms ≤ R.slots) :
    va_Run p l e R s m args below meth c H locs cells slots mc ms g rest (Qc (Value.ref b :: As).toArray) free := by
  obtain ⟨⟨hrc, hrs, hfr, hlo, hws, hcw⟩, hcode, hini, hy, hlen, hl, hin, hse⟩ := cw
  have hK : Back l R p e below s args y 3 8 (PreOf R mc ms Pc) (PostOf Qc mc ms free) := va_backW (hh := hh) (bytes := bytes) (maxL := maxL) (ret := ret) hM hp.1 hrc hrs hfr hlo hws hcw (fun a' U hW => word_at hW (Or.inl (by first | rfl | simp [Cond.onTables, Cond.keeps, Cond.steady])) hini)
  obtain ⟨hx, hb, hml, ho, -⟩ := S
  obtain ⟨-, ⟨cellB, hcB, hoB, hclB⟩, hPc⟩ := hp
  intro T hT X
  obtain ⟨v, vm₁, ⟨U', l2, c2, s2⟩, hW₁, X', ⟨g', mk, t, L, e1, e2, hq, h1, hL, h2, h3⟩, st⟩ := vx_callVW X hx (C := C) (hh := hh) (bytes := bytes) (maxL := maxL) (ret := ret) ho hl hin hse hcode hy hK (by rw [hT]; exact hcB) hoB hclB hg (hsize.trans hml.symm) (argsL := As) (rest := rest) (fun sig h => hn.trans (hlen sig h)) hstack hW (by rw [hb]; exact hdg)
    (fun vm₁ hW₁ => ⟨hf.1, hf.2, hPc (T.setVm vm₁) hT hW₁⟩)
  dsimp only [Pt.U, Pt.locs, Pt.cells, Pt.slots] at X' e1 e2 h1 h2 h3 st
  subst h1; subst h2; subst h3
  exact ⟨v, (T.setVm vm₁).calling g' mk (Value.ref b :: As).toArray, t, U', L, hT, X', hL, e1, e2, hq, st⟩
section
variable {y : MethodName} {bytes cc : ByteArray} {maxL nL mc ms n index : Nat} {ret : Option FieldType} {ws : List Cond} {rm : Room} {Pc : Array Value → State → Prop} {Qc : Array Value → State → Outcome → State → Prop} {XC : String → State → State → Prop} {free : Addr → Prop} {Ts : List Cond} {own C : String} {b : Addr} {As rest : List Value} {g : JFrame}
theorem vx_runVX {hh : List (Nat × Nat × Nat × Nat)} (S : CallFix p m c cc nL s args Ts own) (hM : vx_Met l y ws rm Pc Qc XC mc ms free) (cw : vx_CVW R s args own C index y bytes maxL ret hh ws rm mc ms n) (hp : PreV s H C b Pc As)
    (hg : g.method = m) (hn : As.length = n) (hsize : g.locals.size = nL) (hstack : g.stack = As.reverse ++ .ref b :: rest) (hW : 2 * g.monitorRoom + (rest.map fun v => v.category).sum ≤ 8) (hdg : decode cc g.pc = .ok (.invokevirtual index, 3)) (hf : cells + mc ≤ R.cells ∧ slots + ms ≤ R.slots) :
    vx_Run p l e R s m args below meth c H locs cells slots mc ms g rest (Qc (Value.ref b :: As).toArray) XC free := by
  obtain ⟨⟨hrc, hrs, hfr, hlo, hws, hcw⟩, hcode, hini, hy, hlen, hl, hin, hse⟩ := cw
  have hK : vx_Back l R p e below s args y 3 8 (PreOf R mc ms Pc) (PostOf Qc mc ms free) (vx_Post XC mc ms free) := vx_backW (hh := hh) (bytes := bytes) (maxL := maxL) (ret := ret) hM hp.1 hrc hrs hfr hlo hws hcw (fun a' U hW => word_at hW (Or.inl (by first | rfl | simp [Cond.onTables, Cond.keeps, Cond.steady])) hini)
  obtain ⟨hx, hb, hml, ho, -⟩ := S
  obtain ⟨-, ⟨cellB, hcB, hoB, hclB⟩, hPc⟩ := hp
  intro T hT X
  rcases vx_callVX X hx (C := C) (hh := hh) (bytes := bytes) (maxL := maxL) (ret := ret) ho hl hin hse hcode hy hK (by rw [hT]; exact hcB) hoB hclB hg (hsize.trans hml.symm) (argsL := As) (rest := rest) (fun sig h => hn.trans (hlen sig h)) hstack hW (by rw [hb]; exact hdg)
    (fun vm₁ hW₁ => ⟨hf.1, hf.2, hPc (T.setVm vm₁) hT hW₁⟩) with ⟨v, vm₁, ⟨U', l2, c2, s2⟩, hW₁, X', ⟨g', mk, t, L, e1, e2, hq, h1, hL, h2, h3⟩, st⟩ | ⟨q, vm₁, ⟨U', l2, c2, s2⟩, hW₁, X', ⟨g', mk, t, L, E, ce, e1, e2, hq, hce, hcv, hcl, h1, hL, h2, h3⟩, st⟩
  · dsimp only [Pt.U, Pt.locs, Pt.cells, Pt.slots] at X' e1 e2 h1 h2 h3 st
    subst h1; subst h2; subst h3
    exact Or.inl ⟨v, (T.setVm vm₁).calling g' mk (Value.ref b :: As).toArray, t, U', L, hT, X', hL, e1, e2, hq, st⟩
  · dsimp only [Pt.U, Pt.locs, Pt.cells, Pt.slots] at X' e1 e2 h1 h2 h3 st hcl
    subst h1; subst h2; subst h3
    exact Or.inr ⟨q, (T.setVm vm₁).calling g' mk (Value.ref b :: As).toArray, t, U', L, E, ce, hT, X', hL, e1, e2, hq, hce, hcv, vx_cls hW₁ hcl, st⟩
theorem vx_runSX {hh : List (Nat × Nat × Nat × Nat)} (S : CallFix p m c cc nL s args Ts own) (hM : vx_Met l y ws rm Pc Qc XC mc ms free) (cw : vx_CSW R s args own index y bytes maxL ret hh ws rm mc ms n) (hp : PreS s H Pc As)
    (hg : g.method = m) (hn : As.length = n) (hsize : g.locals.size = nL) (hstack : g.stack = As.reverse ++ rest) (hW : 2 * g.monitorRoom + (rest.map fun v => v.category).sum ≤ 8) (hdg : decode cc g.pc = .ok (.invokestatic index, 3)) (hf : cells + mc ≤ R.cells ∧ slots + ms ≤ R.slots) :
    vx_Run p l e R s m args below meth c H locs cells slots mc ms g rest (Qc As.toArray) XC free := by
  obtain ⟨⟨hrc, hrs, hfr, hlo, hws, hcw⟩, hcode, hini, hy, hlen, hl, hstt⟩ := cw
  have hK : vx_Back l R p e below s args y 3 8 (PreOf R mc ms Pc) (PostOf Qc mc ms free) (vx_Post XC mc ms free) := vx_backW (hh := hh) (bytes := bytes) (maxL := maxL) (ret := ret) hM hp.1 hrc hrs hfr hlo hws hcw (fun a' U hW => word_at hW (Or.inl (by first | rfl | simp [Cond.onTables, Cond.keeps, Cond.steady])) hini)
  obtain ⟨hx, hb, hml, ho, -⟩ := S
  intro T hT X
  rcases vx_callSX X hx (hh := hh) (bytes := bytes) (maxL := maxL) (ret := ret) ho hl hstt hini hcode hy hK hg (hsize.trans hml.symm) (argsL := As) (rest := rest) (fun sig h => hn.trans (hlen sig h)) hstack hW (by rw [hb]; exact hdg)
    (fun vm₁ hW₁ => ⟨hf.1, hf.2, hp.2 (T.setVm vm₁) hT hW₁⟩) with ⟨v, vm₁, ⟨U', l2, c2, s2⟩, hW₁, X', ⟨g', mk, t, L, e1, e2, hq, h1, hL, h2, h3⟩, st⟩ | ⟨q, vm₁, ⟨U', l2, c2, s2⟩, hW₁, X', ⟨g', mk, t, L, E, ce, e1, e2, hq, hce, hcv, hcl, h1, hL, h2, h3⟩, st⟩
  · dsimp only [Pt.U, Pt.locs, Pt.cells, Pt.slots] at X' e1 e2 h1 h2 h3 st
    subst h1; subst h2; subst h3
    exact Or.inl ⟨v, (T.setVm vm₁).calling g' mk As.toArray, t, U', L, hT, X', hL, e1, e2, hq, st⟩
  · dsimp only [Pt.U, Pt.locs, Pt.cells, Pt.slots] at X' e1 e2 h1 h2 h3 st hcl
    subst h1; subst h2; subst h3
    exact Or.inr ⟨q, (T.setVm vm₁).calling g' mk As.toArray, t, U', L, E, ce, hT, X', hL, e1, e2, hq, hce, hcv, vx_cls hW₁ hcl, st⟩
end
end VXH
theorem vx_ofWH {l : Launch} {y : MethodName} {ws ws' : List Cond} {rm : Room} {Pc : Array Value → State → Prop} {Qc : Array Value → State → Outcome → State → Prop} {XC : String → State → State → Prop} {mc ms : Nat} {free : Addr → Prop} {cc : ByteArray} {maxL : Nat} {ret : Option FieldType} {hh : List (Nat × Nat × Nat × Nat)}
    (hy : plainName y.cls = true) (hw : ws = Cond.codeWith y cc maxL ret hh :: ws')
    (body : ∀ p e s m args below meth c s₁, BodyLoose p l y (headSpec ws rm) cc maxL ret e s m args below meth c s₁ → c.maxLocals = maxL → Pc args s →
      W p l e (headSpec ws rm).room s m args below meth c s.heap [] 0 0 (vx_MQ below Qc XC args s mc ms free) (entryFrame m args maxL)) : vx_Met l y ws rm Pc Qc XC mc ms free := by
  refine MetFree.of_bodyS (code := cc) (maxLocals := maxL) (ret := ret) hy ?_ ?_
  · intro args s m h hn
    obtain ⟨m9, meth, c, hn9, h1, h2, h3, h4, -, h5, h6, -⟩ := Cond.codeWith_spec (atoms_spec (ws := ws) h _ (by rw [hw]; exact List.mem_cons_self))
    cases hn.symm.trans hn9
    exact ⟨meth, c, h1, h2, h3, h4, h5, h6⟩
  · intro p e s m args below meth c s₁ B hml hP _
    have hh0 : s₁.heap = s.heap := by rw [B.state]; rfl
    obtain ⟨t, a1, o, b1, b2, b3⟩ := body p e s m args below meth c s₁ B hml hP s₁ hh0 (Stand.of_body B)
    exact ⟨t, o, a1, b1, b2, b3⟩
/-! ===== END ===== -/
end
section
/-! ===== BEGIN printed: names, fields, word lists, decode rows ===== -/
def RX0 : String := "BookIndex$Spans"
def TX0 : u_T := fun k => match k with
  | 0 => ("BookIndex$Spans", "firsts", "[I", true)
  | 1 => ("BookIndex$Spans", "lasts", "[I", true)
  | _ => ("BookIndex$Spans", "count", "I", false)
def tyX0 : Nat → FieldType := fun k => match k with
  | 0 => .array .int
  | 1 => .array .int
  | _ => .int
abbrev wsX00 : List Cond := u_ws RX0 TX0 3
theorem nmX0 : ∀ a, a < 3 → ∀ b, b < 3 → a ≠ b → (TX0 a).2.1 ≠ (TX0 b).2.1 := by decide +kernel
theorem tyX0_ok : ∀ k, k < 3 → parseFieldDescriptor (TX0 k).2.2.1 = some (tyX0 k) := by decide +kernel
abbrev cX0_init : ByteArray := prog_2_method_1_code
def yX0_init : MethodName := ⟨RX0, "<init>", "()V"⟩
abbrev cX0_count : ByteArray := prog_2_method_2_code
def yX0_count : MethodName := ⟨RX0, "count", "()I"⟩
abbrev cX0_first : ByteArray := prog_2_method_3_code
def yX0_first : MethodName := ⟨RX0, "first", "(I)I"⟩
abbrev cX0_last : ByteArray := prog_2_method_4_code
def yX0_last : MethodName := ⟨RX0, "last", "(I)I"⟩
abbrev cX0_pages : ByteArray := prog_2_method_5_code
def yX0_pages : MethodName := ⟨RX0, "pages", "()I"⟩
abbrev cX0_has : ByteArray := prog_2_method_6_code
def yX0_has : MethodName := ⟨RX0, "has", "(I)Z"⟩
abbrev cX0_pagesInCommon : ByteArray := prog_2_method_7_code
def yX0_pagesInCommon : MethodName := ⟨RX0, "pagesInCommon", "(LBookIndex$Spans;)I"⟩
abbrev cX0_append : ByteArray := prog_2_method_8_code
def yX0_append : MethodName := ⟨RX0, "append", "(III)V"⟩
abbrev cX0_becomeOne : ByteArray := prog_2_method_9_code
def yX0_becomeOne : MethodName := ⟨RX0, "becomeOne", "(II)V"⟩
abbrev cX0_becomeSame : ByteArray := prog_2_method_10_code
def yX0_becomeSame : MethodName := ⟨RX0, "becomeSame", "(LBookIndex$Spans;)V"⟩
abbrev cX0_becomeBridged : ByteArray := prog_2_method_11_code
def yX0_becomeBridged : MethodName := ⟨RX0, "becomeBridged", "(LBookIndex$Spans;I)V"⟩
abbrev cX0_becomeUnion : ByteArray := prog_2_method_12_code
def yX0_becomeUnion : MethodName := ⟨RX0, "becomeUnion", "(LBookIndex$Spans;LBookIndex$Spans;)V"⟩
abbrev cX0_becomeRest : ByteArray := prog_2_method_13_code
def yX0_becomeRest : MethodName := ⟨RX0, "becomeRest", "(LBookIndex$Spans;II)V"⟩
abbrev cX0_becomeWithoutPageOfBook : ByteArray := prog_2_method_14_code
def yX0_becomeWithoutPageOfBook : MethodName := ⟨RX0, "becomeWithoutPageOfBook", "(LBookIndex$Spans;I)V"⟩
abbrev cX0_appendUnlessEmpty : ByteArray := prog_2_method_15_code
def yX0_appendUnlessEmpty : MethodName := ⟨RX0, "appendUnlessEmpty", "(II)V"⟩
abbrev cX0_moveOn : ByteArray := prog_2_method_16_code
def yX0_moveOn : MethodName := ⟨RX0, "moveOn", "(II)V"⟩
def RX1 : String := "BookIndex"
def TX1 : u_T := fun k => match k with
  | 0 => ("BookIndex", "spansByHeading", "[LBookIndex$Spans;", true)
  | 1 => ("BookIndex", "sees", "[I", true)
  | 2 => ("BookIndex", "seeAlsos", "[I", true)
  | 3 => ("BookIndex", "tally", "[I", true)
  | 4 => ("BookIndex", "asked", "LBookIndex$Spans;", true)
  | 5 => ("BookIndex", "made", "LBookIndex$Spans;", true)
  | 6 => ("BookIndex", "noSpans", "LBookIndex$Spans;", true)
  | 7 => ("BookIndex", "headingCount", "I", false)
  | _ => ("BookIndex", "pageCount", "I", false)
def tyX1 : Nat → FieldType := fun k => match k with
  | 0 => .array (.object "BookIndex$Spans")
  | 1 => .array .int
  | 2 => .array .int
  | 3 => .array .int
  | 4 => .object "BookIndex$Spans"
  | 5 => .object "BookIndex$Spans"
  | 6 => .object "BookIndex$Spans"
  | 7 => .int
  | _ => .int
abbrev wsX10 : List Cond := u_ws RX1 TX1 9
theorem nmX1 : ∀ a, a < 9 → ∀ b, b < 9 → a ≠ b → (TX1 a).2.1 ≠ (TX1 b).2.1 := by decide +kernel
theorem tyX1_ok : ∀ k, k < 9 → parseFieldDescriptor (TX1 k).2.2.1 = some (tyX1 k) := by decide +kernel
abbrev cX1_init : ByteArray := prog_1_method_1_code
def yX1_init : MethodName := ⟨RX1, "<init>", "()V"⟩
abbrev cX1_addHeading : ByteArray := prog_1_method_2_code
def yX1_addHeading : MethodName := ⟨RX1, "addHeading", "()I"⟩
abbrev cX1_addPages : ByteArray := prog_1_method_3_code
def yX1_addPages : MethodName := ⟨RX1, "addPages", "(III)I"⟩
abbrev cX1_takePages : ByteArray := prog_1_method_4_code
def yX1_takePages : MethodName := ⟨RX1, "takePages", "(III)I"⟩
abbrev cX1_setSee : ByteArray := prog_1_method_5_code
def yX1_setSee : MethodName := ⟨RX1, "setSee", "(II)I"⟩
abbrev cX1_turnSeeAlso : ByteArray := prog_1_method_6_code
def yX1_turnSeeAlso : MethodName := ⟨RX1, "turnSeeAlso", "(II)I"⟩
abbrev cX1_putIn : ByteArray := prog_1_method_7_code
def yX1_putIn : MethodName := ⟨RX1, "putIn", "(II)I"⟩
abbrev cX1_takeOut : ByteArray := prog_1_method_8_code
def yX1_takeOut : MethodName := ⟨RX1, "takeOut", "(I)I"⟩
abbrev cX1_bookPages : ByteArray := prog_1_method_9_code
def yX1_bookPages : MethodName := ⟨RX1, "bookPages", "()I"⟩
abbrev cX1_headings : ByteArray := prog_1_method_10_code
def yX1_headings : MethodName := ⟨RX1, "headings", "()I"⟩
abbrev cX1_spansOf : ByteArray := prog_1_method_11_code
def yX1_spansOf : MethodName := ⟨RX1, "spansOf", "(I)I"⟩
abbrev cX1_startOf : ByteArray := prog_1_method_12_code
def yX1_startOf : MethodName := ⟨RX1, "startOf", "(II)I"⟩
abbrev cX1_endOf : ByteArray := prog_1_method_13_code
def yX1_endOf : MethodName := ⟨RX1, "endOf", "(II)I"⟩
abbrev cX1_pagesOf : ByteArray := prog_1_method_14_code
def yX1_pagesOf : MethodName := ⟨RX1, "pagesOf", "(I)I"⟩
abbrev cX1_seeOf : ByteArray := prog_1_method_15_code
def yX1_seeOf : MethodName := ⟨RX1, "seeOf", "(I)I"⟩
abbrev cX1_seeAlsosOf : ByteArray := prog_1_method_16_code
def yX1_seeAlsosOf : MethodName := ⟨RX1, "seeAlsosOf", "(I)I"⟩
abbrev cX1_isOn : ByteArray := prog_1_method_17_code
def yX1_isOn : MethodName := ⟨RX1, "isOn", "(II)Z"⟩
abbrev cX1_headingsOn : ByteArray := prog_1_method_18_code
def yX1_headingsOn : MethodName := ⟨RX1, "headingsOn", "(I)I"⟩
abbrev cX1_barePages : ByteArray := prog_1_method_19_code
def yX1_barePages : MethodName := ⟨RX1, "barePages", "()I"⟩
abbrev cX1_fullestPage : ByteArray := prog_1_method_20_code
def yX1_fullestPage : MethodName := ⟨RX1, "fullestPage", "()I"⟩
abbrev cX1_leadsTo : ByteArray := prog_1_method_21_code
def yX1_leadsTo : MethodName := ⟨RX1, "leadsTo", "(I)I"⟩
abbrev cX1_vainSees : ByteArray := prog_1_method_22_code
def yX1_vainSees : MethodName := ⟨RX1, "vainSees", "()I"⟩
abbrev cX1_steps : ByteArray := prog_1_method_23_code
def yX1_steps : MethodName := ⟨RX1, "steps", "(II)I"⟩
abbrev cX1_reachOf : ByteArray := prog_1_method_24_code
def yX1_reachOf : MethodName := ⟨RX1, "reachOf", "(I)I"⟩
abbrev cX1_isInRing : ByteArray := prog_1_method_25_code
def yX1_isInRing : MethodName := ⟨RX1, "isInRing", "(I)Z"⟩
abbrev cX1_unled : ByteArray := prog_1_method_26_code
def yX1_unled : MethodName := ⟨RX1, "unled", "()I"⟩
abbrev cX1_spansWithGap : ByteArray := prog_1_method_27_code
def yX1_spansWithGap : MethodName := ⟨RX1, "spansWithGap", "(II)I"⟩
abbrev cX1_commonPages : ByteArray := prog_1_method_28_code
def yX1_commonPages : MethodName := ⟨RX1, "commonPages", "(II)I"⟩
abbrev cX1_nearest : ByteArray := prog_1_method_29_code
def yX1_nearest : MethodName := ⟨RX1, "nearest", "(I)I"⟩
abbrev cX1_spansTogether : ByteArray := prog_1_method_30_code
def yX1_spansTogether : MethodName := ⟨RX1, "spansTogether", "(II)I"⟩
abbrev cX1_meanPages : ByteArray := prog_1_method_31_code
def yX1_meanPages : MethodName := ⟨RX1, "meanPages", "()D"⟩
abbrev cX1_digest : ByteArray := prog_1_method_32_code
def yX1_digest : MethodName := ⟨RX1, "digest", "()J"⟩
abbrev cX1_digestWith : ByteArray := prog_1_method_33_code
def yX1_digestWith : MethodName := ⟨RX1, "digestWith", "(JJ)J"⟩
abbrev cX1_digestWithHeading : ByteArray := prog_1_method_34_code
def yX1_digestWithHeading : MethodName := ⟨RX1, "digestWithHeading", "(JI)J"⟩
abbrev cX1_isHeading : ByteArray := prog_1_method_35_code
def yX1_isHeading : MethodName := ⟨RX1, "isHeading", "(I)Z"⟩
abbrev cX1_needHeading : ByteArray := prog_1_method_36_code
def yX1_needHeading : MethodName := ⟨RX1, "needHeading", "(I)V"⟩
abbrev cX1_needSpan : ByteArray := prog_1_method_37_code
def yX1_needSpan : MethodName := ⟨RX1, "needSpan", "(II)V"⟩
abbrev cX1_needPage : ByteArray := prog_1_method_38_code
def yX1_needPage : MethodName := ⟨RX1, "needPage", "(I)V"⟩
abbrev cX1_needPages : ByteArray := prog_1_method_39_code
def yX1_needPages : MethodName := ⟨RX1, "needPages", "(II)V"⟩
abbrev cX1_needTwo : ByteArray := prog_1_method_40_code
def yX1_needTwo : MethodName := ⟨RX1, "needTwo", "(II)V"⟩
abbrev cX1_needNoPages : ByteArray := prog_1_method_41_code
def yX1_needNoPages : MethodName := ⟨RX1, "needNoPages", "(I)V"⟩
abbrev cX1_needRoomForMade : ByteArray := prog_1_method_42_code
def yX1_needRoomForMade : MethodName := ⟨RX1, "needRoomForMade", "()V"⟩
abbrev cX1_spansAt : ByteArray := prog_1_method_43_code
def yX1_spansAt : MethodName := ⟨RX1, "spansAt", "(I)LBookIndex$Spans;"⟩
abbrev cX1_seeAt : ByteArray := prog_1_method_44_code
def yX1_seeAt : MethodName := ⟨RX1, "seeAt", "(I)I"⟩
abbrev cX1_countSeeAlsos : ByteArray := prog_1_method_45_code
def yX1_countSeeAlsos : MethodName := ⟨RX1, "countSeeAlsos", "(I)I"⟩
abbrev cX1_countHeadingsOn : ByteArray := prog_1_method_46_code
def yX1_countHeadingsOn : MethodName := ⟨RX1, "countHeadingsOn", "(I)I"⟩
abbrev cX1_tallyHeadingsByPage : ByteArray := prog_1_method_47_code
def yX1_tallyHeadingsByPage : MethodName := ⟨RX1, "tallyHeadingsByPage", "()V"⟩
abbrev cX1_tallyEnds : ByteArray := prog_1_method_48_code
def yX1_tallyEnds : MethodName := ⟨RX1, "tallyEnds", "(LBookIndex$Spans;)V"⟩
abbrev cX1_tallyAt : ByteArray := prog_1_method_49_code
def yX1_tallyAt : MethodName := ⟨RX1, "tallyAt", "(II)V"⟩
abbrev cX1_nearestOther : ByteArray := prog_1_method_50_code
def yX1_nearestOther : MethodName := ⟨RX1, "nearestOther", "(I)I"⟩
abbrev cX1_only : ByteArray := prog_1_method_51_code
def yX1_only : MethodName := ⟨RX1, "only", "(I)I"⟩
abbrev cX1_endOfSees : ByteArray := prog_1_method_52_code
def yX1_endOfSees : MethodName := ⟨RX1, "endOfSees", "(I)I"⟩
abbrev cX1_isVainEnd : ByteArray := prog_1_method_53_code
def yX1_isVainEnd : MethodName := ⟨RX1, "isVainEnd", "(I)Z"⟩
abbrev cX1_oneStepFrom : ByteArray := prog_1_method_54_code
def yX1_oneStepFrom : MethodName := ⟨RX1, "oneStepFrom", "(I)I"⟩
abbrev cX1_allStepsFrom : ByteArray := prog_1_method_55_code
def yX1_allStepsFrom : MethodName := ⟨RX1, "allStepsFrom", "(I)I"⟩
abbrev cX1_countReached : ByteArray := prog_1_method_56_code
def yX1_countReached : MethodName := ⟨RX1, "countReached", "(I)I"⟩
abbrev cX1_comesBack : ByteArray := prog_1_method_57_code
def yX1_comesBack : MethodName := ⟨RX1, "comesBack", "(I)Z"⟩
def RX2 : String := "BookIndexModel"
def TX2 : u_T := fun k => match k with
  | 0 => ("BookIndexModel", "thrown", "I", false)
  | 1 => ("BookIndexModel", "pages", "I", false)
  | 2 => ("BookIndexModel", "headings", "I", false)
  | 3 => ("BookIndexModel", "on", "[Z", true)
  | 4 => ("BookIndexModel", "see", "[I", true)
  | _ => ("BookIndexModel", "also", "[I", true)
def tyX2 : Nat → FieldType := fun k => match k with
  | 0 => .int
  | 1 => .int
  | 2 => .int
  | 3 => .array .boolean
  | 4 => .array .int
  | _ => .array .int
abbrev wsX20 : List Cond := u_ws RX2 TX2 6
theorem nmX2 : ∀ a, a < 6 → ∀ b, b < 6 → a ≠ b → (TX2 a).2.1 ≠ (TX2 b).2.1 := by decide +kernel
theorem tyX2_ok : ∀ k, k < 6 → parseFieldDescriptor (TX2 k).2.2.1 = some (tyX2 k) := by decide +kernel
abbrev cX2_init : ByteArray := prog_4_method_1_code
def yX2_init : MethodName := ⟨RX2, "<init>", "()V"⟩
abbrev cX2_thrown : ByteArray := prog_4_method_2_code
def yX2_thrown : MethodName := ⟨RX2, "thrown", "()I"⟩
abbrev cX2_no : ByteArray := prog_4_method_3_code
def yX2_no : MethodName := ⟨RX2, "no", "(I)I"⟩
abbrev cX2_isNot : ByteArray := prog_4_method_4_code
def yX2_isNot : MethodName := ⟨RX2, "isNot", "(I)Z"⟩
abbrev cX2_ok : ByteArray := prog_4_method_5_code
def yX2_ok : MethodName := ⟨RX2, "ok", "(I)I"⟩
abbrev cX2_isIn : ByteArray := prog_4_method_6_code
def yX2_isIn : MethodName := ⟨RX2, "isIn", "(III)Z"⟩
abbrev cX2_isHeading : ByteArray := prog_4_method_7_code
def yX2_isHeading : MethodName := ⟨RX2, "isHeading", "(I)Z"⟩
abbrev cX2_isPage : ByteArray := prog_4_method_8_code
def yX2_isPage : MethodName := ⟨RX2, "isPage", "(I)Z"⟩
abbrev cX2_arePages : ByteArray := prog_4_method_9_code
def yX2_arePages : MethodName := ⟨RX2, "arePages", "(II)Z"⟩
abbrev cX2_has : ByteArray := prog_4_method_10_code
def yX2_has : MethodName := ⟨RX2, "has", "(II)Z"⟩
abbrev cX2_let : ByteArray := prog_4_method_11_code
def yX2_let : MethodName := ⟨RX2, "let", "(IIZ)V"⟩
abbrev cX2_spans : ByteArray := prog_4_method_12_code
def yX2_spans : MethodName := ⟨RX2, "spans", "(III)I"⟩
abbrev cX2_spansWith : ByteArray := prog_4_method_13_code
def yX2_spansWith : MethodName := ⟨RX2, "spansWith", "(IIIZ)I"⟩
abbrev cX2_many : ByteArray := prog_4_method_14_code
def yX2_many : MethodName := ⟨RX2, "many", "(I)I"⟩
abbrev cX2_begins : ByteArray := prog_4_method_15_code
def yX2_begins : MethodName := ⟨RX2, "begins", "(II)I"⟩
abbrev cX2_ends : ByteArray := prog_4_method_16_code
def yX2_ends : MethodName := ⟨RX2, "ends", "(II)I"⟩
abbrev cX2_common : ByteArray := prog_4_method_17_code
def yX2_common : MethodName := ⟨RX2, "common", "(II)I"⟩
abbrev cX2_near : ByteArray := prog_4_method_18_code
def yX2_near : MethodName := ⟨RX2, "near", "(I)I"⟩
abbrev cX2_onPage : ByteArray := prog_4_method_19_code
def yX2_onPage : MethodName := ⟨RX2, "onPage", "(I)I"⟩
abbrev cX2_bare : ByteArray := prog_4_method_20_code
def yX2_bare : MethodName := ⟨RX2, "bare", "()I"⟩
abbrev cX2_fullest : ByteArray := prog_4_method_21_code
def yX2_fullest : MethodName := ⟨RX2, "fullest", "()I"⟩
abbrev cX2_end : ByteArray := prog_4_method_22_code
def yX2_end : MethodName := ⟨RX2, "end", "(I)I"⟩
abbrev cX2_vain : ByteArray := prog_4_method_23_code
def yX2_vain : MethodName := ⟨RX2, "vain", "()I"⟩
abbrev cX2_step : ByteArray := prog_4_method_24_code
def yX2_step : MethodName := ⟨RX2, "step", "(I)I"⟩
abbrev cX2_all : ByteArray := prog_4_method_25_code
def yX2_all : MethodName := ⟨RX2, "all", "(I)I"⟩
abbrev cX2_far : ByteArray := prog_4_method_26_code
def yX2_far : MethodName := ⟨RX2, "far", "(II)I"⟩
abbrev cX2_rings : ByteArray := prog_4_method_27_code
def yX2_rings : MethodName := ⟨RX2, "rings", "(I)Z"⟩
abbrev cX2_alone : ByteArray := prog_4_method_28_code
def yX2_alone : MethodName := ⟨RX2, "alone", "()I"⟩
abbrev cX2_addHeading : ByteArray := prog_4_method_29_code
def yX2_addHeading : MethodName := ⟨RX2, "addHeading", "()I"⟩
abbrev cX2_put : ByteArray := prog_4_method_30_code
def yX2_put : MethodName := ⟨RX2, "put", "(IIIZ)V"⟩
abbrev cX2_addPages : ByteArray := prog_4_method_31_code
def yX2_addPages : MethodName := ⟨RX2, "addPages", "(III)I"⟩
abbrev cX2_takePages : ByteArray := prog_4_method_32_code
def yX2_takePages : MethodName := ⟨RX2, "takePages", "(III)I"⟩
abbrev cX2_setSee : ByteArray := prog_4_method_33_code
def yX2_setSee : MethodName := ⟨RX2, "setSee", "(II)I"⟩
abbrev cX2_turnSeeAlso : ByteArray := prog_4_method_34_code
def yX2_turnSeeAlso : MethodName := ⟨RX2, "turnSeeAlso", "(II)I"⟩
abbrev cX2_putIn : ByteArray := prog_4_method_35_code
def yX2_putIn : MethodName := ⟨RX2, "putIn", "(II)I"⟩
abbrev cX2_takeOut : ByteArray := prog_4_method_36_code
def yX2_takeOut : MethodName := ⟨RX2, "takeOut", "(I)I"⟩
abbrev cX2_bookPages : ByteArray := prog_4_method_37_code
def yX2_bookPages : MethodName := ⟨RX2, "bookPages", "()I"⟩
abbrev cX2_headings : ByteArray := prog_4_method_38_code
def yX2_headings : MethodName := ⟨RX2, "headings", "()I"⟩
abbrev cX2_spansOf : ByteArray := prog_4_method_39_code
def yX2_spansOf : MethodName := ⟨RX2, "spansOf", "(I)I"⟩
abbrev cX2_isSpan : ByteArray := prog_4_method_40_code
def yX2_isSpan : MethodName := ⟨RX2, "isSpan", "(II)Z"⟩
abbrev cX2_startOf : ByteArray := prog_4_method_41_code
def yX2_startOf : MethodName := ⟨RX2, "startOf", "(II)I"⟩
abbrev cX2_endOf : ByteArray := prog_4_method_42_code
def yX2_endOf : MethodName := ⟨RX2, "endOf", "(II)I"⟩
abbrev cX2_pagesOf : ByteArray := prog_4_method_43_code
def yX2_pagesOf : MethodName := ⟨RX2, "pagesOf", "(I)I"⟩
abbrev cX2_seeOf : ByteArray := prog_4_method_44_code
def yX2_seeOf : MethodName := ⟨RX2, "seeOf", "(I)I"⟩
abbrev cX2_seeAlsosOf : ByteArray := prog_4_method_45_code
def yX2_seeAlsosOf : MethodName := ⟨RX2, "seeAlsosOf", "(I)I"⟩
abbrev cX2_isOn : ByteArray := prog_4_method_46_code
def yX2_isOn : MethodName := ⟨RX2, "isOn", "(II)Z"⟩
abbrev cX2_headingsOn : ByteArray := prog_4_method_47_code
def yX2_headingsOn : MethodName := ⟨RX2, "headingsOn", "(I)I"⟩
abbrev cX2_barePages : ByteArray := prog_4_method_48_code
def yX2_barePages : MethodName := ⟨RX2, "barePages", "()I"⟩
abbrev cX2_fullestPage : ByteArray := prog_4_method_49_code
def yX2_fullestPage : MethodName := ⟨RX2, "fullestPage", "()I"⟩
abbrev cX2_leadsTo : ByteArray := prog_4_method_50_code
def yX2_leadsTo : MethodName := ⟨RX2, "leadsTo", "(I)I"⟩
abbrev cX2_vainSees : ByteArray := prog_4_method_51_code
def yX2_vainSees : MethodName := ⟨RX2, "vainSees", "()I"⟩
abbrev cX2_steps : ByteArray := prog_4_method_52_code
def yX2_steps : MethodName := ⟨RX2, "steps", "(II)I"⟩
abbrev cX2_reachOf : ByteArray := prog_4_method_53_code
def yX2_reachOf : MethodName := ⟨RX2, "reachOf", "(I)I"⟩
abbrev cX2_isInRing : ByteArray := prog_4_method_54_code
def yX2_isInRing : MethodName := ⟨RX2, "isInRing", "(I)Z"⟩
abbrev cX2_unled : ByteArray := prog_4_method_55_code
def yX2_unled : MethodName := ⟨RX2, "unled", "()I"⟩
abbrev cX2_spansWithGap : ByteArray := prog_4_method_56_code
def yX2_spansWithGap : MethodName := ⟨RX2, "spansWithGap", "(II)I"⟩
abbrev cX2_commonPages : ByteArray := prog_4_method_57_code
def yX2_commonPages : MethodName := ⟨RX2, "commonPages", "(II)I"⟩
abbrev cX2_nearest : ByteArray := prog_4_method_58_code
def yX2_nearest : MethodName := ⟨RX2, "nearest", "(I)I"⟩
abbrev cX2_spansTogether : ByteArray := prog_4_method_59_code
def yX2_spansTogether : MethodName := ⟨RX2, "spansTogether", "(II)I"⟩
abbrev cX2_meanPages : ByteArray := prog_4_method_60_code
def yX2_meanPages : MethodName := ⟨RX2, "meanPages", "()D"⟩
abbrev cX2_digest : ByteArray := prog_4_method_61_code
def yX2_digest : MethodName := ⟨RX2, "digest", "()J"⟩
def RJ6 : String := "java/lang/Integer"
def TJ6 : u_T := fun k => match k with
  | _ => ("", "", "", false)
def tyJ6 : Nat → FieldType := fun k => match k with
  | _ => .int
abbrev wsJ60 : List Cond := u_ws RJ6 TJ6 0
theorem nmJ6 : ∀ a, a < 0 → ∀ b, b < 0 → a ≠ b → (TJ6 a).2.1 ≠ (TJ6 b).2.1 := by decide +kernel
theorem tyJ6_ok : ∀ k, k < 0 → parseFieldDescriptor (TJ6 k).2.2.1 = some (tyJ6 k) := by decide +kernel
abbrev cJ6_bitCount_0f7a4 : ByteArray := prog_9_method_49_code
def yJ6_bitCount_0f7a4 : MethodName := ⟨RJ6, "bitCount", "(I)I"⟩
def RJ9 : String := "java/lang/Math"
def TJ9 : u_T := fun k => match k with
  | _ => ("", "", "", false)
def tyJ9 : Nat → FieldType := fun k => match k with
  | _ => .int
abbrev wsJ90 : List Cond := u_ws RJ9 TJ9 0
theorem nmJ9 : ∀ a, a < 0 → ∀ b, b < 0 → a ≠ b → (TJ9 a).2.1 ≠ (TJ9 b).2.1 := by decide +kernel
theorem tyJ9_ok : ∀ k, k < 0 → parseFieldDescriptor (TJ9 k).2.2.1 = some (tyJ9 k) := by decide +kernel
abbrev cJ9_max_7cf53 : ByteArray := prog_10_method_65_code
def yJ9_max_7cf53 : MethodName := ⟨RJ9, "max", "(II)I"⟩
abbrev cJ9_min_7cf53 : ByteArray := prog_10_method_69_code
def yJ9_min_7cf53 : MethodName := ⟨RJ9, "min", "(II)I"⟩
def RJ0 : String := "java/lang/String"
def TJ0 : u_T := fun k => match k with
  | _ => ("", "", "", false)
def tyJ0 : Nat → FieldType := fun k => match k with
  | _ => .int
abbrev wsJ00 : List Cond := u_ws RJ0 TJ0 0
theorem nmJ0 : ∀ a, a < 0 → ∀ b, b < 0 → a ≠ b → (TJ0 a).2.1 ≠ (TJ0 b).2.1 := by decide +kernel
theorem tyJ0_ok : ∀ k, k < 0 → parseFieldDescriptor (TJ0 k).2.2.1 = some (tyJ0 k) := by decide +kernel
def RL : String := "BookIndexLaw"
abbrev cL_addHeading : ByteArray := method_3_code
def yL_addHeading : MethodName := ⟨RL, "addHeading", "(LBookIndex;[J)I"⟩
abbrev cL_addPages : ByteArray := method_4_code
def yL_addPages : MethodName := ⟨RL, "addPages", "(LBookIndex;III[J)I"⟩
abbrev cL_takePages : ByteArray := method_5_code
def yL_takePages : MethodName := ⟨RL, "takePages", "(LBookIndex;III[J)I"⟩
abbrev cL_setSee : ByteArray := method_6_code
def yL_setSee : MethodName := ⟨RL, "setSee", "(LBookIndex;II[J)I"⟩
abbrev cL_turnSeeAlso : ByteArray := method_7_code
def yL_turnSeeAlso : MethodName := ⟨RL, "turnSeeAlso", "(LBookIndex;II[J)I"⟩
abbrev cL_putIn : ByteArray := method_8_code
def yL_putIn : MethodName := ⟨RL, "putIn", "(LBookIndex;II[J)I"⟩
abbrev cL_takeOut : ByteArray := method_9_code
def yL_takeOut : MethodName := ⟨RL, "takeOut", "(LBookIndex;I[J)I"⟩
abbrev cL_spansOf : ByteArray := method_10_code
def yL_spansOf : MethodName := ⟨RL, "spansOf", "(LBookIndex;I[J)I"⟩
abbrev cL_startOf : ByteArray := method_11_code
def yL_startOf : MethodName := ⟨RL, "startOf", "(LBookIndex;II[J)I"⟩
abbrev cL_endOf : ByteArray := method_12_code
def yL_endOf : MethodName := ⟨RL, "endOf", "(LBookIndex;II[J)I"⟩
abbrev cL_pagesOf : ByteArray := method_13_code
def yL_pagesOf : MethodName := ⟨RL, "pagesOf", "(LBookIndex;I[J)I"⟩
abbrev cL_seeOf : ByteArray := method_14_code
def yL_seeOf : MethodName := ⟨RL, "seeOf", "(LBookIndex;I[J)I"⟩
abbrev cL_seeAlsosOf : ByteArray := method_15_code
def yL_seeAlsosOf : MethodName := ⟨RL, "seeAlsosOf", "(LBookIndex;I[J)I"⟩
abbrev cL_isOn : ByteArray := method_16_code
def yL_isOn : MethodName := ⟨RL, "isOn", "(LBookIndex;II[J)I"⟩
abbrev cL_headingsOn : ByteArray := method_17_code
def yL_headingsOn : MethodName := ⟨RL, "headingsOn", "(LBookIndex;I[J)I"⟩
abbrev cL_leadsTo : ByteArray := method_18_code
def yL_leadsTo : MethodName := ⟨RL, "leadsTo", "(LBookIndex;I[J)I"⟩
abbrev cL_steps : ByteArray := method_19_code
def yL_steps : MethodName := ⟨RL, "steps", "(LBookIndex;II[J)I"⟩
abbrev cL_reachOf : ByteArray := method_20_code
def yL_reachOf : MethodName := ⟨RL, "reachOf", "(LBookIndex;I[J)I"⟩
abbrev cL_isInRing : ByteArray := method_21_code
def yL_isInRing : MethodName := ⟨RL, "isInRing", "(LBookIndex;I[J)I"⟩
abbrev cL_spansWithGap : ByteArray := method_22_code
def yL_spansWithGap : MethodName := ⟨RL, "spansWithGap", "(LBookIndex;II[J)I"⟩
abbrev cL_commonPages : ByteArray := method_23_code
def yL_commonPages : MethodName := ⟨RL, "commonPages", "(LBookIndex;II[J)I"⟩
abbrev cL_nearest : ByteArray := method_24_code
def yL_nearest : MethodName := ⟨RL, "nearest", "(LBookIndex;I[J)I"⟩
abbrev cL_spansTogether : ByteArray := method_25_code
def yL_spansTogether : MethodName := ⟨RL, "spansTogether", "(LBookIndex;II[J)I"⟩
abbrev cL_law : ByteArray := code
def yL_law : MethodName := ⟨RL, "law", "([I)Z"⟩
def wsX0_init : List Cond := .code yX0_init cX0_init 1 none :: ([.methodLink RX0 3 objectInit, .instanceMethod objectInit, .code objectInit ⟨#[0xb1]⟩ 1 none, .arrayClass .int, .fieldLink RX0 9 "BookIndex$Spans" "firsts" "[I", .fieldLink RX0 15 "BookIndex$Spans" "lasts" "[I", .fieldLink RX0 18 "BookIndex$Spans" "count" "I"] ++ wsX00)
def wsX0_count : List Cond := .code yX0_count cX0_count 1 (some .int) :: ([.fieldLink RX0 18 "BookIndex$Spans" "count" "I"] ++ wsX00)
def wsX0_first : List Cond := .code yX0_first cX0_first 2 (some .int) :: ([.fieldLink RX0 18 "BookIndex$Spans" "count" "I", .fieldLink RX0 9 "BookIndex$Spans" "firsts" "[I"] ++ wsX00)
def wsX0_last : List Cond := .code yX0_last cX0_last 2 (some .int) :: ([.fieldLink RX0 18 "BookIndex$Spans" "count" "I", .fieldLink RX0 15 "BookIndex$Spans" "lasts" "[I"] ++ wsX00)
def wsX0_pages : List Cond := .code yX0_pages cX0_pages 3 (some .int) :: ([.fieldLink RX0 18 "BookIndex$Spans" "count" "I", .fieldLink RX0 15 "BookIndex$Spans" "lasts" "[I", .fieldLink RX0 9 "BookIndex$Spans" "firsts" "[I"] ++ wsX00)
def wsX0_has : List Cond := .code yX0_has cX0_has 3 (some .boolean) :: ([.fieldLink RX0 18 "BookIndex$Spans" "count" "I", .fieldLink RX0 9 "BookIndex$Spans" "firsts" "[I", .fieldLink RX0 15 "BookIndex$Spans" "lasts" "[I"] ++ wsX00)
def wsX0_pagesInCommon : List Cond := .code yX0_pagesInCommon cX0_pagesInCommon 8 (some .int) :: ([.fieldLink RX0 18 "BookIndex$Spans" "count" "I", .fieldLink RX0 9 "BookIndex$Spans" "firsts" "[I", .methodLink RX0 22 Lib.Math.max.name, .static Lib.Math.max.name, .initialized "java/lang/Math", .code Lib.Math.max.name Lib.Math.max.code 2 (some .int), .fieldLink RX0 15 "BookIndex$Spans" "lasts" "[I", .methodLink RX0 28 Lib.Math.min.name, .static Lib.Math.min.name, .code Lib.Math.min.name Lib.Math.min.code 2 (some .int)] ++ wsX00)
def wsX0_append : List Cond := .code yX0_append cX0_append 4 none :: ([.fieldLink RX0 18 "BookIndex$Spans" "count" "I", .fieldLink RX0 15 "BookIndex$Spans" "lasts" "[I", .methodLink RX0 22 Lib.Math.max.name, .static Lib.Math.max.name, .initialized "java/lang/Math", .code Lib.Math.max.name Lib.Math.max.code 2 (some .int), .fieldLink RX0 9 "BookIndex$Spans" "firsts" "[I"] ++ wsX00)
def wsX0_becomeOne : List Cond := .code yX0_becomeOne cX0_becomeOne 3 none :: ([.fieldLink RX0 18 "BookIndex$Spans" "count" "I", .methodLink RX0 31 yX0_append, .instanceMethod yX0_append, .selects RX0 yX0_append yX0_append, .initialized RX0, .code yX0_append cX0_append 4 none, .fieldLink RX0 15 "BookIndex$Spans" "lasts" "[I", .methodLink RX0 22 Lib.Math.max.name, .static Lib.Math.max.name, .initialized "java/lang/Math", .code Lib.Math.max.name Lib.Math.max.code 2 (some .int), .fieldLink RX0 9 "BookIndex$Spans" "firsts" "[I"] ++ wsX00)
def wsX0_becomeBridged : List Cond := .code yX0_becomeBridged cX0_becomeBridged 4 none :: ([.fieldLink RX0 18 "BookIndex$Spans" "count" "I", .fieldLink RX0 9 "BookIndex$Spans" "firsts" "[I", .fieldLink RX0 15 "BookIndex$Spans" "lasts" "[I", .methodLink RX0 31 yX0_append, .instanceMethod yX0_append, .selects RX0 yX0_append yX0_append, .initialized RX0, .code yX0_append cX0_append 4 none, .methodLink RX0 22 Lib.Math.max.name, .static Lib.Math.max.name, .initialized "java/lang/Math", .code Lib.Math.max.name Lib.Math.max.code 2 (some .int)] ++ wsX00)
def wsX0_becomeSame : List Cond := .code yX0_becomeSame cX0_becomeSame 2 none :: ([.methodLink RX0 35 yX0_becomeBridged, .instanceMethod yX0_becomeBridged, .selects RX0 yX0_becomeBridged yX0_becomeBridged, .initialized RX0, .code yX0_becomeBridged cX0_becomeBridged 4 none, .fieldLink RX0 18 "BookIndex$Spans" "count" "I", .fieldLink RX0 9 "BookIndex$Spans" "firsts" "[I", .fieldLink RX0 15 "BookIndex$Spans" "lasts" "[I", .methodLink RX0 31 yX0_append, .instanceMethod yX0_append, .selects RX0 yX0_append yX0_append, .code yX0_append cX0_append 4 none, .methodLink RX0 22 Lib.Math.max.name, .static Lib.Math.max.name, .initialized "java/lang/Math", .code Lib.Math.max.name Lib.Math.max.code 2 (some .int)] ++ wsX00)
def wsX0_becomeUnion : List Cond := .code yX0_becomeUnion cX0_becomeUnion 7 none :: ([.fieldLink RX0 18 "BookIndex$Spans" "count" "I", .fieldLink RX0 9 "BookIndex$Spans" "firsts" "[I", .methodLink RX0 39 yX0_first, .instanceMethod yX0_first, .selects RX0 yX0_first yX0_first, .initialized RX0, .code yX0_first cX0_first 2 (some .int), .methodLink RX0 43 yX0_last, .instanceMethod yX0_last, .selects RX0 yX0_last yX0_last, .code yX0_last cX0_last 2 (some .int), .fieldLink RX0 15 "BookIndex$Spans" "lasts" "[I", .methodLink RX0 31 yX0_append, .instanceMethod yX0_append, .selects RX0 yX0_append yX0_append, .code yX0_append cX0_append 4 none, .methodLink RX0 22 Lib.Math.max.name, .static Lib.Math.max.name, .initialized "java/lang/Math", .code Lib.Math.max.name Lib.Math.max.code 2 (some .int)] ++ wsX00)
def wsX0_appendUnlessEmpty : List Cond := .code yX0_appendUnlessEmpty cX0_appendUnlessEmpty 3 none :: ([.methodLink RX0 31 yX0_append, .instanceMethod yX0_append, .selects RX0 yX0_append yX0_append, .initialized RX0, .code yX0_append cX0_append 4 none, .fieldLink RX0 18 "BookIndex$Spans" "count" "I", .fieldLink RX0 15 "BookIndex$Spans" "lasts" "[I", .methodLink RX0 22 Lib.Math.max.name, .static Lib.Math.max.name, .initialized "java/lang/Math", .code Lib.Math.max.name Lib.Math.max.code 2 (some .int), .fieldLink RX0 9 "BookIndex$Spans" "firsts" "[I"] ++ wsX00)
def wsX0_becomeRest : List Cond := .code yX0_becomeRest cX0_becomeRest 5 none :: ([.fieldLink RX0 18 "BookIndex$Spans" "count" "I", .fieldLink RX0 9 "BookIndex$Spans" "firsts" "[I", .fieldLink RX0 15 "BookIndex$Spans" "lasts" "[I", .methodLink RX0 28 Lib.Math.min.name, .static Lib.Math.min.name, .initialized "java/lang/Math", .code Lib.Math.min.name Lib.Math.min.code 2 (some .int), .methodLink RX0 22 Lib.Math.max.name, .static Lib.Math.max.name, .code Lib.Math.max.name Lib.Math.max.code 2 (some .int), .methodLink RX0 46 yX0_appendUnlessEmpty, .instanceMethod yX0_appendUnlessEmpty, .selects RX0 yX0_appendUnlessEmpty yX0_appendUnlessEmpty, .initialized RX0, .code yX0_appendUnlessEmpty cX0_appendUnlessEmpty 3 none, .methodLink RX0 31 yX0_append, .instanceMethod yX0_append, .selects RX0 yX0_append yX0_append, .code yX0_append cX0_append 4 none] ++ wsX00)
def wsX0_becomeWithoutPageOfBook : List Cond := .code yX0_becomeWithoutPageOfBook cX0_becomeWithoutPageOfBook 6 none :: ([.fieldLink RX0 18 "BookIndex$Spans" "count" "I", .fieldLink RX0 9 "BookIndex$Spans" "firsts" "[I", .fieldLink RX0 15 "BookIndex$Spans" "lasts" "[I", .methodLink RX0 46 yX0_appendUnlessEmpty, .instanceMethod yX0_appendUnlessEmpty, .selects RX0 yX0_appendUnlessEmpty yX0_appendUnlessEmpty, .initialized RX0, .code yX0_appendUnlessEmpty cX0_appendUnlessEmpty 3 none, .methodLink RX0 31 yX0_append, .instanceMethod yX0_append, .selects RX0 yX0_append yX0_append, .code yX0_append cX0_append 4 none, .methodLink RX0 22 Lib.Math.max.name, .static Lib.Math.max.name, .initialized "java/lang/Math", .code Lib.Math.max.name Lib.Math.max.code 2 (some .int)] ++ wsX00)
def wsX0_moveOn : List Cond := .code yX0_moveOn cX0_moveOn 4 none :: ([.fieldLink RX0 18 "BookIndex$Spans" "count" "I", .fieldLink RX0 9 "BookIndex$Spans" "firsts" "[I", .fieldLink RX0 15 "BookIndex$Spans" "lasts" "[I"] ++ wsX00)
def wsX1_init : List Cond := .code yX1_init cX1_init 2 none :: ([.methodLink RX1 3 objectInit, .instanceMethod objectInit, .code objectInit ⟨#[0xb1]⟩ 1 none, .classLink RX1 9 RX0, .fieldLink RX1 11 "BookIndex" "spansByHeading" "[LBookIndex$Spans;", .instantiable RX0 3, .initialized RX0, .arrayClass .int, .fieldLink RX1 16 "BookIndex" "sees" "[I", .fieldLink RX1 20 "BookIndex" "seeAlsos" "[I", .fieldLink RX1 23 "BookIndex" "tally" "[I", .fieldLink RX1 26 "BookIndex" "asked" "LBookIndex$Spans;", .fieldLink RX1 30 "BookIndex" "made" "LBookIndex$Spans;", .fieldLink RX1 33 "BookIndex" "noSpans" "LBookIndex$Spans;", .fieldLink RX1 36 "BookIndex" "headingCount" "I", .fieldLink RX1 40 "BookIndex" "pageCount" "I", .methodLink RX1 15 yX0_init, .instanceMethod yX0_init, .code yX0_init cX0_init 1 none, .methodLink RX0 3 objectInit, .fieldLink RX0 9 "BookIndex$Spans" "firsts" "[I", .fieldLink RX0 15 "BookIndex$Spans" "lasts" "[I", .fieldLink RX0 18 "BookIndex$Spans" "count" "I"] ++ wsX10 ++ wsX00)
def wsX1_addHeading : List Cond := .code yX1_addHeading cX1_addHeading 2 (some .int) :: ([.classLink RX1 43 "java/lang/IllegalStateException", .initialized "java/lang/IllegalStateException", .fieldLink RX1 36 "BookIndex" "headingCount" "I", .fieldLink RX1 16 "BookIndex" "sees" "[I"] ++ wsX10 ++ (vx_atS RX1 47 "java/lang/IllegalStateException" ["java/lang/RuntimeException", "java/lang/Exception"]).filter goodWord)
def wsX1_isHeading : List Cond := .code yX1_isHeading cX1_isHeading 2 (some .boolean) :: ([.fieldLink RX1 36 "BookIndex" "headingCount" "I"] ++ wsX10)
def wsX1_needHeading : List Cond := .code yX1_needHeading cX1_needHeading 2 none :: ([.classLink RX1 212 "java/lang/IndexOutOfBoundsException", .initialized "java/lang/IndexOutOfBoundsException", .methodLink RX1 209 yX1_isHeading, .instanceMethod yX1_isHeading, .selects RX1 yX1_isHeading yX1_isHeading, .initialized RX1, .code yX1_isHeading cX1_isHeading 2 (some .boolean), .fieldLink RX1 36 "BookIndex" "headingCount" "I"] ++ wsX10 ++ (vx_atS RX1 216 "java/lang/IndexOutOfBoundsException" ["java/lang/RuntimeException", "java/lang/Exception"]).filter goodWord)
def wsX1_needPages : List Cond := .code yX1_needPages cX1_needPages 3 none :: ([.classLink RX1 109 "java/lang/IllegalArgumentException", .initialized "java/lang/IllegalArgumentException", .fieldLink RX1 40 "BookIndex" "pageCount" "I"] ++ wsX10 ++ (vx_atS RX1 113 "java/lang/IllegalArgumentException" ["java/lang/RuntimeException", "java/lang/Exception"]).filter goodWord)
def wsX1_seeAt : List Cond := .code yX1_seeAt cX1_seeAt 2 (some .int) :: ([.fieldLink RX1 16 "BookIndex" "sees" "[I", .methodLink RX1 209 yX1_isHeading, .instanceMethod yX1_isHeading, .selects RX1 yX1_isHeading yX1_isHeading, .initialized RX1, .code yX1_isHeading cX1_isHeading 2 (some .boolean), .fieldLink RX1 36 "BookIndex" "headingCount" "I"] ++ wsX10)
def wsX1_spansAt : List Cond := .code yX1_spansAt cX1_spansAt 3 (some (.object "BookIndex$Spans")) :: ([.fieldLink RX1 11 "BookIndex" "spansByHeading" "[LBookIndex$Spans;", .fieldLink RX1 33 "BookIndex" "noSpans" "LBookIndex$Spans;", .methodLink RX1 209 yX1_isHeading, .instanceMethod yX1_isHeading, .selects RX1 yX1_isHeading yX1_isHeading, .initialized RX1, .code yX1_isHeading cX1_isHeading 2 (some .boolean), .fieldLink RX1 36 "BookIndex" "headingCount" "I"] ++ wsX10)
def wsX1_needRoomForMade : List Cond := .code yX1_needRoomForMade cX1_needRoomForMade 1 none :: ([.classLink RX1 43 "java/lang/IllegalStateException", .initialized "java/lang/IllegalStateException", .fieldLink RX1 30 "BookIndex" "made" "LBookIndex$Spans;", .methodLink RX1 82 yX0_count, .instanceMethod yX0_count, .selects RX0 yX0_count yX0_count, .initialized RX0, .code yX0_count cX0_count 1 (some .int), .fieldLink RX0 18 "BookIndex$Spans" "count" "I"] ++ wsX10 ++ wsX00 ++ (vx_atS RX1 47 "java/lang/IllegalStateException" ["java/lang/RuntimeException", "java/lang/Exception"]).filter goodWord)
def wsX1_addPages_r1 : List Cond := [Cond.classLink RX1 43 "java/lang/IllegalStateException", Cond.initialized "java/lang/IllegalStateException", Cond.fieldLink RX1 26 "BookIndex" "asked" "LBookIndex$Spans;", Cond.fieldLink RX1 30 "BookIndex" "made" "LBookIndex$Spans;", Cond.methodLink RX1 50 yX1_needHeading, Cond.instanceMethod yX1_needHeading, Cond.selects RX1 yX1_needHeading yX1_needHeading, Cond.initialized RX1, Cond.code yX1_needHeading cX1_needHeading 2 none, Cond.classLink RX1 212 "java/lang/IndexOutOfBoundsException", Cond.initialized "java/lang/IndexOutOfBoundsException", Cond.methodLink RX1 209 yX1_isHeading, Cond.instanceMethod yX1_isHeading, Cond.selects RX1 yX1_isHeading yX1_isHeading, Cond.code yX1_isHeading cX1_isHeading 2 (some .boolean), Cond.fieldLink RX1 36 "BookIndex" "headingCount" "I", Cond.methodLink RX1 54 yX1_needPages, Cond.instanceMethod yX1_needPages, Cond.selects RX1 yX1_needPages yX1_needPages, Cond.code yX1_needPages cX1_needPages 3 none, Cond.classLink RX1 109 "java/lang/IllegalArgumentException", Cond.initialized "java/lang/IllegalArgumentException", Cond.fieldLink RX1 40 "BookIndex" "pageCount" "I", Cond.methodLink RX1 58 yX1_seeAt]
def wsX1_addPages_r2 : List Cond := [Cond.instanceMethod yX1_seeAt, Cond.selects RX1 yX1_seeAt yX1_seeAt, Cond.code yX1_seeAt cX1_seeAt 2 (some .int), Cond.fieldLink RX1 16 "BookIndex" "sees" "[I", Cond.methodLink RX1 64 yX1_spansAt, Cond.instanceMethod yX1_spansAt, Cond.selects RX1 yX1_spansAt yX1_spansAt, Cond.code yX1_spansAt cX1_spansAt 3 (some (.object "BookIndex$Spans")), Cond.fieldLink RX1 11 "BookIndex" "spansByHeading" "[LBookIndex$Spans;", Cond.fieldLink RX1 33 "BookIndex" "noSpans" "LBookIndex$Spans;", Cond.methodLink RX1 68 yX0_becomeOne, Cond.instanceMethod yX0_becomeOne, Cond.selects RX0 yX0_becomeOne yX0_becomeOne, Cond.initialized RX0, Cond.code yX0_becomeOne cX0_becomeOne 3 none, Cond.fieldLink RX0 18 "BookIndex$Spans" "count" "I", Cond.methodLink RX0 31 yX0_append, Cond.instanceMethod yX0_append, Cond.selects RX0 yX0_append yX0_append, Cond.code yX0_append cX0_append 4 none, Cond.fieldLink RX0 15 "BookIndex$Spans" "lasts" "[I", Cond.methodLink RX0 22 Lib.Math.max.name, Cond.static Lib.Math.max.name, Cond.initialized "java/lang/Math"]
def wsX1_addPages_r3 : List Cond := [Cond.code Lib.Math.max.name Lib.Math.max.code 2 (some .int), Cond.fieldLink RX0 9 "BookIndex$Spans" "firsts" "[I", Cond.methodLink RX1 71 yX0_becomeUnion, Cond.instanceMethod yX0_becomeUnion, Cond.selects RX0 yX0_becomeUnion yX0_becomeUnion, Cond.code yX0_becomeUnion cX0_becomeUnion 7 none, Cond.methodLink RX0 39 yX0_first, Cond.instanceMethod yX0_first, Cond.selects RX0 yX0_first yX0_first, Cond.code yX0_first cX0_first 2 (some .int), Cond.methodLink RX0 43 yX0_last, Cond.instanceMethod yX0_last, Cond.selects RX0 yX0_last yX0_last, Cond.code yX0_last cX0_last 2 (some .int), Cond.methodLink RX1 75 yX1_needRoomForMade, Cond.instanceMethod yX1_needRoomForMade, Cond.selects RX1 yX1_needRoomForMade yX1_needRoomForMade, Cond.code yX1_needRoomForMade cX1_needRoomForMade 1 none, Cond.methodLink RX1 82 yX0_count, Cond.instanceMethod yX0_count, Cond.selects RX0 yX0_count yX0_count, Cond.code yX0_count cX0_count 1 (some .int), Cond.methodLink RX1 78 yX0_becomeSame, Cond.instanceMethod yX0_becomeSame]
def wsX1_addPages_r4 : List Cond := [Cond.selects RX0 yX0_becomeSame yX0_becomeSame, Cond.code yX0_becomeSame cX0_becomeSame 2 none, Cond.methodLink RX0 35 yX0_becomeBridged, Cond.instanceMethod yX0_becomeBridged, Cond.selects RX0 yX0_becomeBridged yX0_becomeBridged, Cond.code yX0_becomeBridged cX0_becomeBridged 4 none]
def wsX1_addPages : List Cond := .code yX1_addPages cX1_addPages 5 (some .int) :: ((wsX1_addPages_r1 ++ (wsX1_addPages_r2 ++ (wsX1_addPages_r3 ++ wsX1_addPages_r4))) ++ wsX10 ++ wsX00 ++ (vx_atS RX1 47 "java/lang/IllegalStateException" ["java/lang/RuntimeException", "java/lang/Exception"]).filter goodWord ++ (vx_atS RX1 216 "java/lang/IndexOutOfBoundsException" ["java/lang/RuntimeException", "java/lang/Exception"]).filter goodWord ++ (vx_atS RX1 113 "java/lang/IllegalArgumentException" ["java/lang/RuntimeException", "java/lang/Exception"]).filter goodWord)
def wsX1_takePages_r1 : List Cond := [Cond.fieldLink RX1 30 "BookIndex" "made" "LBookIndex$Spans;", Cond.methodLink RX1 50 yX1_needHeading, Cond.instanceMethod yX1_needHeading, Cond.selects RX1 yX1_needHeading yX1_needHeading, Cond.initialized RX1, Cond.code yX1_needHeading cX1_needHeading 2 none, Cond.classLink RX1 212 "java/lang/IndexOutOfBoundsException", Cond.initialized "java/lang/IndexOutOfBoundsException", Cond.methodLink RX1 209 yX1_isHeading, Cond.instanceMethod yX1_isHeading, Cond.selects RX1 yX1_isHeading yX1_isHeading, Cond.code yX1_isHeading cX1_isHeading 2 (some .boolean), Cond.fieldLink RX1 36 "BookIndex" "headingCount" "I", Cond.methodLink RX1 54 yX1_needPages, Cond.instanceMethod yX1_needPages, Cond.selects RX1 yX1_needPages yX1_needPages, Cond.code yX1_needPages cX1_needPages 3 none, Cond.classLink RX1 109 "java/lang/IllegalArgumentException", Cond.initialized "java/lang/IllegalArgumentException", Cond.fieldLink RX1 40 "BookIndex" "pageCount" "I", Cond.methodLink RX1 64 yX1_spansAt, Cond.instanceMethod yX1_spansAt, Cond.selects RX1 yX1_spansAt yX1_spansAt, Cond.code yX1_spansAt cX1_spansAt 3 (some (.object "BookIndex$Spans"))]
def wsX1_takePages_r2 : List Cond := [Cond.fieldLink RX1 11 "BookIndex" "spansByHeading" "[LBookIndex$Spans;", Cond.fieldLink RX1 33 "BookIndex" "noSpans" "LBookIndex$Spans;", Cond.methodLink RX1 86 yX0_becomeRest, Cond.instanceMethod yX0_becomeRest, Cond.selects RX0 yX0_becomeRest yX0_becomeRest, Cond.initialized RX0, Cond.code yX0_becomeRest cX0_becomeRest 5 none, Cond.fieldLink RX0 18 "BookIndex$Spans" "count" "I", Cond.fieldLink RX0 9 "BookIndex$Spans" "firsts" "[I", Cond.fieldLink RX0 15 "BookIndex$Spans" "lasts" "[I", Cond.methodLink RX0 28 Lib.Math.min.name, Cond.static Lib.Math.min.name, Cond.initialized "java/lang/Math", Cond.code Lib.Math.min.name Lib.Math.min.code 2 (some .int), Cond.methodLink RX0 22 Lib.Math.max.name, Cond.static Lib.Math.max.name, Cond.code Lib.Math.max.name Lib.Math.max.code 2 (some .int), Cond.methodLink RX0 46 yX0_appendUnlessEmpty, Cond.instanceMethod yX0_appendUnlessEmpty, Cond.selects RX0 yX0_appendUnlessEmpty yX0_appendUnlessEmpty, Cond.code yX0_appendUnlessEmpty cX0_appendUnlessEmpty 3 none, Cond.methodLink RX0 31 yX0_append, Cond.instanceMethod yX0_append, Cond.selects RX0 yX0_append yX0_append]
def wsX1_takePages_r3 : List Cond := [Cond.code yX0_append cX0_append 4 none, Cond.methodLink RX1 75 yX1_needRoomForMade, Cond.instanceMethod yX1_needRoomForMade, Cond.selects RX1 yX1_needRoomForMade yX1_needRoomForMade, Cond.code yX1_needRoomForMade cX1_needRoomForMade 1 none, Cond.classLink RX1 43 "java/lang/IllegalStateException", Cond.initialized "java/lang/IllegalStateException", Cond.methodLink RX1 82 yX0_count, Cond.instanceMethod yX0_count, Cond.selects RX0 yX0_count yX0_count, Cond.code yX0_count cX0_count 1 (some .int), Cond.methodLink RX1 90 yX0_pages, Cond.instanceMethod yX0_pages, Cond.selects RX0 yX0_pages yX0_pages, Cond.code yX0_pages cX0_pages 3 (some .int), Cond.methodLink RX1 78 yX0_becomeSame, Cond.instanceMethod yX0_becomeSame, Cond.selects RX0 yX0_becomeSame yX0_becomeSame, Cond.code yX0_becomeSame cX0_becomeSame 2 none, Cond.methodLink RX0 35 yX0_becomeBridged, Cond.instanceMethod yX0_becomeBridged, Cond.selects RX0 yX0_becomeBridged yX0_becomeBridged, Cond.code yX0_becomeBridged cX0_becomeBridged 4 none]
def wsX1_takePages : List Cond := .code yX1_takePages cX1_takePages 6 (some .int) :: ((wsX1_takePages_r1 ++ (wsX1_takePages_r2 ++ wsX1_takePages_r3)) ++ wsX10 ++ wsX00 ++ (vx_atS RX1 216 "java/lang/IndexOutOfBoundsException" ["java/lang/RuntimeException", "java/lang/Exception"]).filter goodWord ++ (vx_atS RX1 113 "java/lang/IllegalArgumentException" ["java/lang/RuntimeException", "java/lang/Exception"]).filter goodWord ++ (vx_atS RX1 47 "java/lang/IllegalStateException" ["java/lang/RuntimeException", "java/lang/Exception"]).filter goodWord)
def wsX1_needTwo : List Cond := .code yX1_needTwo cX1_needTwo 3 none :: ([.classLink RX1 109 "java/lang/IllegalArgumentException", .initialized "java/lang/IllegalArgumentException"] ++ (vx_atS RX1 113 "java/lang/IllegalArgumentException" ["java/lang/RuntimeException", "java/lang/Exception"]).filter goodWord)
def wsX1_needNoPages : List Cond := .code yX1_needNoPages cX1_needNoPages 2 none :: ([.classLink RX1 43 "java/lang/IllegalStateException", .initialized "java/lang/IllegalStateException", .methodLink RX1 64 yX1_spansAt, .instanceMethod yX1_spansAt, .selects RX1 yX1_spansAt yX1_spansAt, .initialized RX1, .code yX1_spansAt cX1_spansAt 3 (some (.object "BookIndex$Spans")), .fieldLink RX1 11 "BookIndex" "spansByHeading" "[LBookIndex$Spans;", .fieldLink RX1 33 "BookIndex" "noSpans" "LBookIndex$Spans;", .methodLink RX1 209 yX1_isHeading, .instanceMethod yX1_isHeading, .selects RX1 yX1_isHeading yX1_isHeading, .code yX1_isHeading cX1_isHeading 2 (some .boolean), .fieldLink RX1 36 "BookIndex" "headingCount" "I", .methodLink RX1 82 yX0_count, .instanceMethod yX0_count, .selects RX0 yX0_count yX0_count, .initialized RX0, .code yX0_count cX0_count 1 (some .int), .fieldLink RX0 18 "BookIndex$Spans" "count" "I"] ++ wsX10 ++ wsX00 ++ (vx_atS RX1 47 "java/lang/IllegalStateException" ["java/lang/RuntimeException", "java/lang/Exception"]).filter goodWord)
def wsX1_setSee_r1 : List Cond := [Cond.fieldLink RX1 16 "BookIndex" "sees" "[I", Cond.methodLink RX1 50 yX1_needHeading, Cond.instanceMethod yX1_needHeading, Cond.selects RX1 yX1_needHeading yX1_needHeading, Cond.initialized RX1, Cond.code yX1_needHeading cX1_needHeading 2 none, Cond.classLink RX1 212 "java/lang/IndexOutOfBoundsException", Cond.initialized "java/lang/IndexOutOfBoundsException", Cond.methodLink RX1 209 yX1_isHeading, Cond.instanceMethod yX1_isHeading, Cond.selects RX1 yX1_isHeading yX1_isHeading, Cond.code yX1_isHeading cX1_isHeading 2 (some .boolean), Cond.fieldLink RX1 36 "BookIndex" "headingCount" "I", Cond.methodLink RX1 93 yX1_needTwo, Cond.instanceMethod yX1_needTwo, Cond.selects RX1 yX1_needTwo yX1_needTwo, Cond.code yX1_needTwo cX1_needTwo 3 none, Cond.classLink RX1 109 "java/lang/IllegalArgumentException", Cond.initialized "java/lang/IllegalArgumentException", Cond.methodLink RX1 96 yX1_needNoPages, Cond.instanceMethod yX1_needNoPages, Cond.selects RX1 yX1_needNoPages yX1_needNoPages, Cond.code yX1_needNoPages cX1_needNoPages 2 none, Cond.classLink RX1 43 "java/lang/IllegalStateException"]
def wsX1_setSee_r2 : List Cond := [Cond.initialized "java/lang/IllegalStateException", Cond.methodLink RX1 64 yX1_spansAt, Cond.instanceMethod yX1_spansAt, Cond.selects RX1 yX1_spansAt yX1_spansAt, Cond.code yX1_spansAt cX1_spansAt 3 (some (.object "BookIndex$Spans")), Cond.fieldLink RX1 11 "BookIndex" "spansByHeading" "[LBookIndex$Spans;", Cond.fieldLink RX1 33 "BookIndex" "noSpans" "LBookIndex$Spans;", Cond.methodLink RX1 82 yX0_count, Cond.instanceMethod yX0_count, Cond.selects RX0 yX0_count yX0_count, Cond.initialized RX0, Cond.code yX0_count cX0_count 1 (some .int), Cond.fieldLink RX0 18 "BookIndex$Spans" "count" "I"]
def wsX1_setSee : List Cond := .code yX1_setSee cX1_setSee 4 (some .int) :: ((wsX1_setSee_r1 ++ wsX1_setSee_r2) ++ wsX10 ++ wsX00 ++ (vx_atS RX1 216 "java/lang/IndexOutOfBoundsException" ["java/lang/RuntimeException", "java/lang/Exception"]).filter goodWord ++ (vx_atS RX1 113 "java/lang/IllegalArgumentException" ["java/lang/RuntimeException", "java/lang/Exception"]).filter goodWord ++ (vx_atS RX1 47 "java/lang/IllegalStateException" ["java/lang/RuntimeException", "java/lang/Exception"]).filter goodWord)
def wsX1_only : List Cond := .code yX1_only cX1_only 1 (some .int) :: ([])
def wsJ6_bitCount_0f7a4 : List Cond := .code yJ6_bitCount_0f7a4 cJ6_bitCount_0f7a4 1 (some .int) :: ([.constant RJ6 265 (1431655765), .constant RJ6 266 (858993459), .constant RJ6 267 (252645135)])
def wsX1_turnSeeAlso_r1 : List Cond := [Cond.classLink RX1 43 "java/lang/IllegalStateException", Cond.initialized "java/lang/IllegalStateException", Cond.fieldLink RX1 20 "BookIndex" "seeAlsos" "[I", Cond.methodLink RX1 50 yX1_needHeading, Cond.instanceMethod yX1_needHeading, Cond.selects RX1 yX1_needHeading yX1_needHeading, Cond.initialized RX1, Cond.code yX1_needHeading cX1_needHeading 2 none, Cond.classLink RX1 212 "java/lang/IndexOutOfBoundsException", Cond.initialized "java/lang/IndexOutOfBoundsException", Cond.methodLink RX1 209 yX1_isHeading, Cond.instanceMethod yX1_isHeading, Cond.selects RX1 yX1_isHeading yX1_isHeading, Cond.code yX1_isHeading cX1_isHeading 2 (some .boolean), Cond.fieldLink RX1 36 "BookIndex" "headingCount" "I", Cond.methodLink RX1 93 yX1_needTwo, Cond.instanceMethod yX1_needTwo, Cond.selects RX1 yX1_needTwo yX1_needTwo, Cond.code yX1_needTwo cX1_needTwo 3 none, Cond.classLink RX1 109 "java/lang/IllegalArgumentException", Cond.initialized "java/lang/IllegalArgumentException", Cond.methodLink RX1 99 yX1_only, Cond.static yX1_only, Cond.code yX1_only cX1_only 1 (some .int)]
def wsX1_turnSeeAlso_r2 : List Cond := [Cond.methodLink RX1 102 yJ6_bitCount_0f7a4, Cond.static yJ6_bitCount_0f7a4, Cond.initialized RJ6, Cond.code yJ6_bitCount_0f7a4 cJ6_bitCount_0f7a4 1 (some .int), Cond.constant RJ6 265 (1431655765), Cond.constant RJ6 266 (858993459), Cond.constant RJ6 267 (252645135)]
def wsX1_turnSeeAlso : List Cond := .code yX1_turnSeeAlso cX1_turnSeeAlso 4 (some .int) :: ((wsX1_turnSeeAlso_r1 ++ wsX1_turnSeeAlso_r2) ++ wsX10 ++ (vx_atS RX1 47 "java/lang/IllegalStateException" ["java/lang/RuntimeException", "java/lang/Exception"]).filter goodWord ++ (vx_atS RX1 216 "java/lang/IndexOutOfBoundsException" ["java/lang/RuntimeException", "java/lang/Exception"]).filter goodWord ++ (vx_atS RX1 113 "java/lang/IllegalArgumentException" ["java/lang/RuntimeException", "java/lang/Exception"]).filter goodWord)
def wsX1_putIn_r1 : List Cond := [Cond.classLink RX1 109 "java/lang/IllegalArgumentException", Cond.initialized "java/lang/IllegalArgumentException", Cond.classLink RX1 43 "java/lang/IllegalStateException", Cond.initialized "java/lang/IllegalStateException", Cond.fieldLink RX1 40 "BookIndex" "pageCount" "I", Cond.fieldLink RX1 36 "BookIndex" "headingCount" "I", Cond.methodLink RX1 64 yX1_spansAt, Cond.instanceMethod yX1_spansAt, Cond.selects RX1 yX1_spansAt yX1_spansAt, Cond.initialized RX1, Cond.code yX1_spansAt cX1_spansAt 3 (some (.object "BookIndex$Spans")), Cond.fieldLink RX1 11 "BookIndex" "spansByHeading" "[LBookIndex$Spans;", Cond.fieldLink RX1 33 "BookIndex" "noSpans" "LBookIndex$Spans;", Cond.methodLink RX1 209 yX1_isHeading, Cond.instanceMethod yX1_isHeading, Cond.selects RX1 yX1_isHeading yX1_isHeading, Cond.code yX1_isHeading cX1_isHeading 2 (some .boolean), Cond.methodLink RX1 118 yX0_moveOn, Cond.instanceMethod yX0_moveOn, Cond.selects RX0 yX0_moveOn yX0_moveOn, Cond.initialized RX0, Cond.code yX0_moveOn cX0_moveOn 4 none, Cond.fieldLink RX0 18 "BookIndex$Spans" "count" "I", Cond.fieldLink RX0 9 "BookIndex$Spans" "firsts" "[I"]
def wsX1_putIn_r2 : List Cond := [Cond.fieldLink RX0 15 "BookIndex$Spans" "lasts" "[I"]
def wsX1_putIn : List Cond := .code yX1_putIn cX1_putIn 4 (some .int) :: ((wsX1_putIn_r1 ++ wsX1_putIn_r2) ++ wsX10 ++ wsX00 ++ (vx_atS RX1 113 "java/lang/IllegalArgumentException" ["java/lang/RuntimeException", "java/lang/Exception"]).filter goodWord ++ (vx_atS RX1 47 "java/lang/IllegalStateException" ["java/lang/RuntimeException", "java/lang/Exception"]).filter goodWord)
def wsX1_needPage : List Cond := .code yX1_needPage cX1_needPage 2 none :: ([.classLink RX1 109 "java/lang/IllegalArgumentException", .initialized "java/lang/IllegalArgumentException", .fieldLink RX1 40 "BookIndex" "pageCount" "I"] ++ wsX10 ++ (vx_atS RX1 113 "java/lang/IllegalArgumentException" ["java/lang/RuntimeException", "java/lang/Exception"]).filter goodWord)
def wsX1_countHeadingsOn : List Cond := .code yX1_countHeadingsOn cX1_countHeadingsOn 4 (some .int) :: ([.fieldLink RX1 36 "BookIndex" "headingCount" "I", .methodLink RX1 64 yX1_spansAt, .instanceMethod yX1_spansAt, .selects RX1 yX1_spansAt yX1_spansAt, .initialized RX1, .code yX1_spansAt cX1_spansAt 3 (some (.object "BookIndex$Spans")), .fieldLink RX1 11 "BookIndex" "spansByHeading" "[LBookIndex$Spans;", .fieldLink RX1 33 "BookIndex" "noSpans" "LBookIndex$Spans;", .methodLink RX1 209 yX1_isHeading, .instanceMethod yX1_isHeading, .selects RX1 yX1_isHeading yX1_isHeading, .code yX1_isHeading cX1_isHeading 2 (some .boolean), .methodLink RX1 145 yX0_has, .instanceMethod yX0_has, .selects RX0 yX0_has yX0_has, .initialized RX0, .code yX0_has cX0_has 3 (some .boolean), .fieldLink RX0 18 "BookIndex$Spans" "count" "I", .fieldLink RX0 9 "BookIndex$Spans" "firsts" "[I", .fieldLink RX0 15 "BookIndex$Spans" "lasts" "[I"] ++ wsX10 ++ wsX00)
def wsX1_takeOut_r1 : List Cond := [Cond.classLink RX1 43 "java/lang/IllegalStateException", Cond.initialized "java/lang/IllegalStateException", Cond.fieldLink RX1 40 "BookIndex" "pageCount" "I", Cond.fieldLink RX1 36 "BookIndex" "headingCount" "I", Cond.fieldLink RX1 30 "BookIndex" "made" "LBookIndex$Spans;", Cond.methodLink RX1 121 yX1_needPage, Cond.instanceMethod yX1_needPage, Cond.selects RX1 yX1_needPage yX1_needPage, Cond.initialized RX1, Cond.code yX1_needPage cX1_needPage 2 none, Cond.classLink RX1 109 "java/lang/IllegalArgumentException", Cond.initialized "java/lang/IllegalArgumentException", Cond.methodLink RX1 126 yX1_countHeadingsOn, Cond.instanceMethod yX1_countHeadingsOn, Cond.selects RX1 yX1_countHeadingsOn yX1_countHeadingsOn, Cond.code yX1_countHeadingsOn cX1_countHeadingsOn 4 (some .int), Cond.methodLink RX1 64 yX1_spansAt, Cond.instanceMethod yX1_spansAt, Cond.selects RX1 yX1_spansAt yX1_spansAt, Cond.code yX1_spansAt cX1_spansAt 3 (some (.object "BookIndex$Spans")), Cond.fieldLink RX1 11 "BookIndex" "spansByHeading" "[LBookIndex$Spans;", Cond.fieldLink RX1 33 "BookIndex" "noSpans" "LBookIndex$Spans;", Cond.methodLink RX1 209 yX1_isHeading, Cond.instanceMethod yX1_isHeading]
def wsX1_takeOut_r2 : List Cond := [Cond.selects RX1 yX1_isHeading yX1_isHeading, Cond.code yX1_isHeading cX1_isHeading 2 (some .boolean), Cond.methodLink RX1 145 yX0_has, Cond.instanceMethod yX0_has, Cond.selects RX0 yX0_has yX0_has, Cond.initialized RX0, Cond.code yX0_has cX0_has 3 (some .boolean), Cond.fieldLink RX0 18 "BookIndex$Spans" "count" "I", Cond.fieldLink RX0 9 "BookIndex$Spans" "firsts" "[I", Cond.fieldLink RX0 15 "BookIndex$Spans" "lasts" "[I", Cond.methodLink RX1 129 yX0_becomeWithoutPageOfBook, Cond.instanceMethod yX0_becomeWithoutPageOfBook, Cond.selects RX0 yX0_becomeWithoutPageOfBook yX0_becomeWithoutPageOfBook, Cond.code yX0_becomeWithoutPageOfBook cX0_becomeWithoutPageOfBook 6 none, Cond.methodLink RX0 46 yX0_appendUnlessEmpty, Cond.instanceMethod yX0_appendUnlessEmpty, Cond.selects RX0 yX0_appendUnlessEmpty yX0_appendUnlessEmpty, Cond.code yX0_appendUnlessEmpty cX0_appendUnlessEmpty 3 none, Cond.methodLink RX0 31 yX0_append, Cond.instanceMethod yX0_append, Cond.selects RX0 yX0_append yX0_append, Cond.code yX0_append cX0_append 4 none, Cond.methodLink RX0 22 Lib.Math.max.name, Cond.static Lib.Math.max.name]
def wsX1_takeOut_r3 : List Cond := [Cond.initialized "java/lang/Math", Cond.code Lib.Math.max.name Lib.Math.max.code 2 (some .int), Cond.methodLink RX1 78 yX0_becomeSame, Cond.instanceMethod yX0_becomeSame, Cond.selects RX0 yX0_becomeSame yX0_becomeSame, Cond.code yX0_becomeSame cX0_becomeSame 2 none, Cond.methodLink RX0 35 yX0_becomeBridged, Cond.instanceMethod yX0_becomeBridged, Cond.selects RX0 yX0_becomeBridged yX0_becomeBridged, Cond.code yX0_becomeBridged cX0_becomeBridged 4 none]
def wsX1_takeOut : List Cond := .code yX1_takeOut cX1_takeOut 5 (some .int) :: ((wsX1_takeOut_r1 ++ (wsX1_takeOut_r2 ++ wsX1_takeOut_r3)) ++ wsX10 ++ wsX00 ++ (vx_atS RX1 47 "java/lang/IllegalStateException" ["java/lang/RuntimeException", "java/lang/Exception"]).filter goodWord ++ (vx_atS RX1 113 "java/lang/IllegalArgumentException" ["java/lang/RuntimeException", "java/lang/Exception"]).filter goodWord)
def wsX1_bookPages : List Cond := .code yX1_bookPages cX1_bookPages 1 (some .int) :: ([.fieldLink RX1 40 "BookIndex" "pageCount" "I"] ++ wsX10)
def wsX1_headings : List Cond := .code yX1_headings cX1_headings 1 (some .int) :: ([.fieldLink RX1 36 "BookIndex" "headingCount" "I"] ++ wsX10)
def wsX1_spansOf : List Cond := .code yX1_spansOf cX1_spansOf 2 (some .int) :: ([.methodLink RX1 50 yX1_needHeading, .instanceMethod yX1_needHeading, .selects RX1 yX1_needHeading yX1_needHeading, .initialized RX1, .code yX1_needHeading cX1_needHeading 2 none, .classLink RX1 212 "java/lang/IndexOutOfBoundsException", .initialized "java/lang/IndexOutOfBoundsException", .methodLink RX1 209 yX1_isHeading, .instanceMethod yX1_isHeading, .selects RX1 yX1_isHeading yX1_isHeading, .code yX1_isHeading cX1_isHeading 2 (some .boolean), .fieldLink RX1 36 "BookIndex" "headingCount" "I", .methodLink RX1 64 yX1_spansAt, .instanceMethod yX1_spansAt, .selects RX1 yX1_spansAt yX1_spansAt, .code yX1_spansAt cX1_spansAt 3 (some (.object "BookIndex$Spans")), .fieldLink RX1 11 "BookIndex" "spansByHeading" "[LBookIndex$Spans;", .fieldLink RX1 33 "BookIndex" "noSpans" "LBookIndex$Spans;", .methodLink RX1 82 yX0_count, .instanceMethod yX0_count, .selects RX0 yX0_count yX0_count, .initialized RX0, .code yX0_count cX0_count 1 (some .int), .fieldLink RX0 18 "BookIndex$Spans" "count" "I"] ++ wsX10 ++ wsX00 ++ (vx_atS RX1 216 "java/lang/IndexOutOfBoundsException" ["java/lang/RuntimeException", "java/lang/Exception"]).filter goodWord)
def wsX1_needSpan : List Cond := .code yX1_needSpan cX1_needSpan 3 none :: ([.classLink RX1 212 "java/lang/IndexOutOfBoundsException", .initialized "java/lang/IndexOutOfBoundsException", .methodLink RX1 64 yX1_spansAt, .instanceMethod yX1_spansAt, .selects RX1 yX1_spansAt yX1_spansAt, .initialized RX1, .code yX1_spansAt cX1_spansAt 3 (some (.object "BookIndex$Spans")), .fieldLink RX1 11 "BookIndex" "spansByHeading" "[LBookIndex$Spans;", .fieldLink RX1 33 "BookIndex" "noSpans" "LBookIndex$Spans;", .methodLink RX1 209 yX1_isHeading, .instanceMethod yX1_isHeading, .selects RX1 yX1_isHeading yX1_isHeading, .code yX1_isHeading cX1_isHeading 2 (some .boolean), .fieldLink RX1 36 "BookIndex" "headingCount" "I", .methodLink RX1 82 yX0_count, .instanceMethod yX0_count, .selects RX0 yX0_count yX0_count, .initialized RX0, .code yX0_count cX0_count 1 (some .int), .fieldLink RX0 18 "BookIndex$Spans" "count" "I"] ++ wsX10 ++ wsX00 ++ (vx_atS RX1 216 "java/lang/IndexOutOfBoundsException" ["java/lang/RuntimeException", "java/lang/Exception"]).filter goodWord)
def wsX1_startOf_r1 : List Cond := [Cond.methodLink RX1 50 yX1_needHeading, Cond.instanceMethod yX1_needHeading, Cond.selects RX1 yX1_needHeading yX1_needHeading, Cond.initialized RX1, Cond.code yX1_needHeading cX1_needHeading 2 none, Cond.classLink RX1 212 "java/lang/IndexOutOfBoundsException", Cond.initialized "java/lang/IndexOutOfBoundsException", Cond.methodLink RX1 209 yX1_isHeading, Cond.instanceMethod yX1_isHeading, Cond.selects RX1 yX1_isHeading yX1_isHeading, Cond.code yX1_isHeading cX1_isHeading 2 (some .boolean), Cond.fieldLink RX1 36 "BookIndex" "headingCount" "I", Cond.methodLink RX1 133 yX1_needSpan, Cond.instanceMethod yX1_needSpan, Cond.selects RX1 yX1_needSpan yX1_needSpan, Cond.code yX1_needSpan cX1_needSpan 3 none, Cond.methodLink RX1 64 yX1_spansAt, Cond.instanceMethod yX1_spansAt, Cond.selects RX1 yX1_spansAt yX1_spansAt, Cond.code yX1_spansAt cX1_spansAt 3 (some (.object "BookIndex$Spans")), Cond.fieldLink RX1 11 "BookIndex" "spansByHeading" "[LBookIndex$Spans;", Cond.fieldLink RX1 33 "BookIndex" "noSpans" "LBookIndex$Spans;", Cond.methodLink RX1 82 yX0_count, Cond.instanceMethod yX0_count]
def wsX1_startOf_r2 : List Cond := [Cond.selects RX0 yX0_count yX0_count, Cond.initialized RX0, Cond.code yX0_count cX0_count 1 (some .int), Cond.fieldLink RX0 18 "BookIndex$Spans" "count" "I", Cond.methodLink RX1 136 yX0_first, Cond.instanceMethod yX0_first, Cond.selects RX0 yX0_first yX0_first, Cond.code yX0_first cX0_first 2 (some .int), Cond.fieldLink RX0 9 "BookIndex$Spans" "firsts" "[I"]
def wsX1_startOf : List Cond := .code yX1_startOf cX1_startOf 3 (some .int) :: ((wsX1_startOf_r1 ++ wsX1_startOf_r2) ++ wsX10 ++ wsX00 ++ (vx_atS RX1 216 "java/lang/IndexOutOfBoundsException" ["java/lang/RuntimeException", "java/lang/Exception"]).filter goodWord)
def wsX1_endOf_r1 : List Cond := [Cond.methodLink RX1 50 yX1_needHeading, Cond.instanceMethod yX1_needHeading, Cond.selects RX1 yX1_needHeading yX1_needHeading, Cond.initialized RX1, Cond.code yX1_needHeading cX1_needHeading 2 none, Cond.classLink RX1 212 "java/lang/IndexOutOfBoundsException", Cond.initialized "java/lang/IndexOutOfBoundsException", Cond.methodLink RX1 209 yX1_isHeading, Cond.instanceMethod yX1_isHeading, Cond.selects RX1 yX1_isHeading yX1_isHeading, Cond.code yX1_isHeading cX1_isHeading 2 (some .boolean), Cond.fieldLink RX1 36 "BookIndex" "headingCount" "I", Cond.methodLink RX1 133 yX1_needSpan, Cond.instanceMethod yX1_needSpan, Cond.selects RX1 yX1_needSpan yX1_needSpan, Cond.code yX1_needSpan cX1_needSpan 3 none, Cond.methodLink RX1 64 yX1_spansAt, Cond.instanceMethod yX1_spansAt, Cond.selects RX1 yX1_spansAt yX1_spansAt, Cond.code yX1_spansAt cX1_spansAt 3 (some (.object "BookIndex$Spans")), Cond.fieldLink RX1 11 "BookIndex" "spansByHeading" "[LBookIndex$Spans;", Cond.fieldLink RX1 33 "BookIndex" "noSpans" "LBookIndex$Spans;", Cond.methodLink RX1 82 yX0_count, Cond.instanceMethod yX0_count]
def wsX1_endOf_r2 : List Cond := [Cond.selects RX0 yX0_count yX0_count, Cond.initialized RX0, Cond.code yX0_count cX0_count 1 (some .int), Cond.fieldLink RX0 18 "BookIndex$Spans" "count" "I", Cond.methodLink RX1 139 yX0_last, Cond.instanceMethod yX0_last, Cond.selects RX0 yX0_last yX0_last, Cond.code yX0_last cX0_last 2 (some .int), Cond.fieldLink RX0 15 "BookIndex$Spans" "lasts" "[I"]
def wsX1_endOf : List Cond := .code yX1_endOf cX1_endOf 3 (some .int) :: ((wsX1_endOf_r1 ++ wsX1_endOf_r2) ++ wsX10 ++ wsX00 ++ (vx_atS RX1 216 "java/lang/IndexOutOfBoundsException" ["java/lang/RuntimeException", "java/lang/Exception"]).filter goodWord)
def wsX1_pagesOf_r1 : List Cond := [Cond.methodLink RX1 50 yX1_needHeading, Cond.instanceMethod yX1_needHeading, Cond.selects RX1 yX1_needHeading yX1_needHeading, Cond.initialized RX1, Cond.code yX1_needHeading cX1_needHeading 2 none, Cond.classLink RX1 212 "java/lang/IndexOutOfBoundsException", Cond.initialized "java/lang/IndexOutOfBoundsException", Cond.methodLink RX1 209 yX1_isHeading, Cond.instanceMethod yX1_isHeading, Cond.selects RX1 yX1_isHeading yX1_isHeading, Cond.code yX1_isHeading cX1_isHeading 2 (some .boolean), Cond.fieldLink RX1 36 "BookIndex" "headingCount" "I", Cond.methodLink RX1 64 yX1_spansAt, Cond.instanceMethod yX1_spansAt, Cond.selects RX1 yX1_spansAt yX1_spansAt, Cond.code yX1_spansAt cX1_spansAt 3 (some (.object "BookIndex$Spans")), Cond.fieldLink RX1 11 "BookIndex" "spansByHeading" "[LBookIndex$Spans;", Cond.fieldLink RX1 33 "BookIndex" "noSpans" "LBookIndex$Spans;", Cond.methodLink RX1 90 yX0_pages, Cond.instanceMethod yX0_pages, Cond.selects RX0 yX0_pages yX0_pages, Cond.initialized RX0, Cond.code yX0_pages cX0_pages 3 (some .int), Cond.fieldLink RX0 18 "BookIndex$Spans" "count" "I"]
def wsX1_pagesOf_r2 : List Cond := [Cond.fieldLink RX0 15 "BookIndex$Spans" "lasts" "[I", Cond.fieldLink RX0 9 "BookIndex$Spans" "firsts" "[I"]
def wsX1_pagesOf : List Cond := .code yX1_pagesOf cX1_pagesOf 2 (some .int) :: ((wsX1_pagesOf_r1 ++ wsX1_pagesOf_r2) ++ wsX10 ++ wsX00 ++ (vx_atS RX1 216 "java/lang/IndexOutOfBoundsException" ["java/lang/RuntimeException", "java/lang/Exception"]).filter goodWord)
def wsX1_seeOf : List Cond := .code yX1_seeOf cX1_seeOf 2 (some .int) :: ([.methodLink RX1 50 yX1_needHeading, .instanceMethod yX1_needHeading, .selects RX1 yX1_needHeading yX1_needHeading, .initialized RX1, .code yX1_needHeading cX1_needHeading 2 none, .classLink RX1 212 "java/lang/IndexOutOfBoundsException", .initialized "java/lang/IndexOutOfBoundsException", .methodLink RX1 209 yX1_isHeading, .instanceMethod yX1_isHeading, .selects RX1 yX1_isHeading yX1_isHeading, .code yX1_isHeading cX1_isHeading 2 (some .boolean), .fieldLink RX1 36 "BookIndex" "headingCount" "I", .methodLink RX1 58 yX1_seeAt, .instanceMethod yX1_seeAt, .selects RX1 yX1_seeAt yX1_seeAt, .code yX1_seeAt cX1_seeAt 2 (some .int), .fieldLink RX1 16 "BookIndex" "sees" "[I"] ++ wsX10 ++ (vx_atS RX1 216 "java/lang/IndexOutOfBoundsException" ["java/lang/RuntimeException", "java/lang/Exception"]).filter goodWord)
def wsX1_countSeeAlsos : List Cond := .code yX1_countSeeAlsos cX1_countSeeAlsos 2 (some .int) :: ([.fieldLink RX1 20 "BookIndex" "seeAlsos" "[I", .methodLink RX1 209 yX1_isHeading, .instanceMethod yX1_isHeading, .selects RX1 yX1_isHeading yX1_isHeading, .initialized RX1, .code yX1_isHeading cX1_isHeading 2 (some .boolean), .fieldLink RX1 36 "BookIndex" "headingCount" "I", .methodLink RX1 102 yJ6_bitCount_0f7a4, .static yJ6_bitCount_0f7a4, .initialized RJ6, .code yJ6_bitCount_0f7a4 cJ6_bitCount_0f7a4 1 (some .int), .constant RJ6 265 (1431655765), .constant RJ6 266 (858993459), .constant RJ6 267 (252645135)] ++ wsX10)
def wsX1_seeAlsosOf : List Cond := .code yX1_seeAlsosOf cX1_seeAlsosOf 2 (some .int) :: ([.methodLink RX1 50 yX1_needHeading, .instanceMethod yX1_needHeading, .selects RX1 yX1_needHeading yX1_needHeading, .initialized RX1, .code yX1_needHeading cX1_needHeading 2 none, .classLink RX1 212 "java/lang/IndexOutOfBoundsException", .initialized "java/lang/IndexOutOfBoundsException", .methodLink RX1 209 yX1_isHeading, .instanceMethod yX1_isHeading, .selects RX1 yX1_isHeading yX1_isHeading, .code yX1_isHeading cX1_isHeading 2 (some .boolean), .fieldLink RX1 36 "BookIndex" "headingCount" "I", .methodLink RX1 142 yX1_countSeeAlsos, .instanceMethod yX1_countSeeAlsos, .selects RX1 yX1_countSeeAlsos yX1_countSeeAlsos, .code yX1_countSeeAlsos cX1_countSeeAlsos 2 (some .int), .fieldLink RX1 20 "BookIndex" "seeAlsos" "[I", .methodLink RX1 102 yJ6_bitCount_0f7a4, .static yJ6_bitCount_0f7a4, .initialized RJ6, .code yJ6_bitCount_0f7a4 cJ6_bitCount_0f7a4 1 (some .int), .constant RJ6 265 (1431655765), .constant RJ6 266 (858993459), .constant RJ6 267 (252645135)] ++ wsX10 ++ (vx_atS RX1 216 "java/lang/IndexOutOfBoundsException" ["java/lang/RuntimeException", "java/lang/Exception"]).filter goodWord)
def wsX1_isOn_r1 : List Cond := [Cond.methodLink RX1 50 yX1_needHeading, Cond.instanceMethod yX1_needHeading, Cond.selects RX1 yX1_needHeading yX1_needHeading, Cond.initialized RX1, Cond.code yX1_needHeading cX1_needHeading 2 none, Cond.classLink RX1 212 "java/lang/IndexOutOfBoundsException", Cond.initialized "java/lang/IndexOutOfBoundsException", Cond.methodLink RX1 209 yX1_isHeading, Cond.instanceMethod yX1_isHeading, Cond.selects RX1 yX1_isHeading yX1_isHeading, Cond.code yX1_isHeading cX1_isHeading 2 (some .boolean), Cond.fieldLink RX1 36 "BookIndex" "headingCount" "I", Cond.methodLink RX1 121 yX1_needPage, Cond.instanceMethod yX1_needPage, Cond.selects RX1 yX1_needPage yX1_needPage, Cond.code yX1_needPage cX1_needPage 2 none, Cond.classLink RX1 109 "java/lang/IllegalArgumentException", Cond.initialized "java/lang/IllegalArgumentException", Cond.fieldLink RX1 40 "BookIndex" "pageCount" "I", Cond.methodLink RX1 64 yX1_spansAt, Cond.instanceMethod yX1_spansAt, Cond.selects RX1 yX1_spansAt yX1_spansAt, Cond.code yX1_spansAt cX1_spansAt 3 (some (.object "BookIndex$Spans")), Cond.fieldLink RX1 11 "BookIndex" "spansByHeading" "[LBookIndex$Spans;"]
def wsX1_isOn_r2 : List Cond := [Cond.fieldLink RX1 33 "BookIndex" "noSpans" "LBookIndex$Spans;", Cond.methodLink RX1 145 yX0_has, Cond.instanceMethod yX0_has, Cond.selects RX0 yX0_has yX0_has, Cond.initialized RX0, Cond.code yX0_has cX0_has 3 (some .boolean), Cond.fieldLink RX0 18 "BookIndex$Spans" "count" "I", Cond.fieldLink RX0 9 "BookIndex$Spans" "firsts" "[I", Cond.fieldLink RX0 15 "BookIndex$Spans" "lasts" "[I"]
def wsX1_isOn : List Cond := .code yX1_isOn cX1_isOn 3 (some .boolean) :: ((wsX1_isOn_r1 ++ wsX1_isOn_r2) ++ wsX10 ++ wsX00 ++ (vx_atS RX1 216 "java/lang/IndexOutOfBoundsException" ["java/lang/RuntimeException", "java/lang/Exception"]).filter goodWord ++ (vx_atS RX1 113 "java/lang/IllegalArgumentException" ["java/lang/RuntimeException", "java/lang/Exception"]).filter goodWord)
def wsX1_headingsOn_r1 : List Cond := [Cond.methodLink RX1 121 yX1_needPage, Cond.instanceMethod yX1_needPage, Cond.selects RX1 yX1_needPage yX1_needPage, Cond.initialized RX1, Cond.code yX1_needPage cX1_needPage 2 none, Cond.classLink RX1 109 "java/lang/IllegalArgumentException", Cond.initialized "java/lang/IllegalArgumentException", Cond.fieldLink RX1 40 "BookIndex" "pageCount" "I", Cond.methodLink RX1 126 yX1_countHeadingsOn, Cond.instanceMethod yX1_countHeadingsOn, Cond.selects RX1 yX1_countHeadingsOn yX1_countHeadingsOn, Cond.code yX1_countHeadingsOn cX1_countHeadingsOn 4 (some .int), Cond.fieldLink RX1 36 "BookIndex" "headingCount" "I", Cond.methodLink RX1 64 yX1_spansAt, Cond.instanceMethod yX1_spansAt, Cond.selects RX1 yX1_spansAt yX1_spansAt, Cond.code yX1_spansAt cX1_spansAt 3 (some (.object "BookIndex$Spans")), Cond.fieldLink RX1 11 "BookIndex" "spansByHeading" "[LBookIndex$Spans;", Cond.fieldLink RX1 33 "BookIndex" "noSpans" "LBookIndex$Spans;", Cond.methodLink RX1 209 yX1_isHeading, Cond.instanceMethod yX1_isHeading, Cond.selects RX1 yX1_isHeading yX1_isHeading, Cond.code yX1_isHeading cX1_isHeading 2 (some .boolean), Cond.methodLink RX1 145 yX0_has]
def wsX1_headingsOn_r2 : List Cond := [Cond.instanceMethod yX0_has, Cond.selects RX0 yX0_has yX0_has, Cond.initialized RX0, Cond.code yX0_has cX0_has 3 (some .boolean), Cond.fieldLink RX0 18 "BookIndex$Spans" "count" "I", Cond.fieldLink RX0 9 "BookIndex$Spans" "firsts" "[I", Cond.fieldLink RX0 15 "BookIndex$Spans" "lasts" "[I"]
def wsX1_headingsOn : List Cond := .code yX1_headingsOn cX1_headingsOn 2 (some .int) :: ((wsX1_headingsOn_r1 ++ wsX1_headingsOn_r2) ++ wsX10 ++ wsX00 ++ (vx_atS RX1 113 "java/lang/IllegalArgumentException" ["java/lang/RuntimeException", "java/lang/Exception"]).filter goodWord)
def wsX1_tallyAt : List Cond := .code yX1_tallyAt cX1_tallyAt 3 none :: ([.fieldLink RX1 23 "BookIndex" "tally" "[I"] ++ wsX10)
def wsX1_tallyEnds : List Cond := .code yX1_tallyEnds cX1_tallyEnds 3 none :: ([.methodLink RX1 82 yX0_count, .instanceMethod yX0_count, .selects RX0 yX0_count yX0_count, .initialized RX0, .code yX0_count cX0_count 1 (some .int), .fieldLink RX0 18 "BookIndex$Spans" "count" "I", .methodLink RX1 136 yX0_first, .instanceMethod yX0_first, .selects RX0 yX0_first yX0_first, .code yX0_first cX0_first 2 (some .int), .fieldLink RX0 9 "BookIndex$Spans" "firsts" "[I", .methodLink RX1 232 yX1_tallyAt, .instanceMethod yX1_tallyAt, .selects RX1 yX1_tallyAt yX1_tallyAt, .initialized RX1, .code yX1_tallyAt cX1_tallyAt 3 none, .fieldLink RX1 23 "BookIndex" "tally" "[I", .methodLink RX1 139 yX0_last, .instanceMethod yX0_last, .selects RX0 yX0_last yX0_last, .code yX0_last cX0_last 2 (some .int), .fieldLink RX0 15 "BookIndex$Spans" "lasts" "[I"] ++ wsX00 ++ wsX10)
def wsX1_tallyHeadingsByPage_r1 : List Cond := [Cond.fieldLink RX1 23 "BookIndex" "tally" "[I", Cond.fieldLink RX1 36 "BookIndex" "headingCount" "I", Cond.methodLink RX1 64 yX1_spansAt, Cond.instanceMethod yX1_spansAt, Cond.selects RX1 yX1_spansAt yX1_spansAt, Cond.initialized RX1, Cond.code yX1_spansAt cX1_spansAt 3 (some (.object "BookIndex$Spans")), Cond.fieldLink RX1 11 "BookIndex" "spansByHeading" "[LBookIndex$Spans;", Cond.fieldLink RX1 33 "BookIndex" "noSpans" "LBookIndex$Spans;", Cond.methodLink RX1 209 yX1_isHeading, Cond.instanceMethod yX1_isHeading, Cond.selects RX1 yX1_isHeading yX1_isHeading, Cond.code yX1_isHeading cX1_isHeading 2 (some .boolean), Cond.methodLink RX1 229 yX1_tallyEnds, Cond.instanceMethod yX1_tallyEnds, Cond.selects RX1 yX1_tallyEnds yX1_tallyEnds, Cond.code yX1_tallyEnds cX1_tallyEnds 3 none, Cond.methodLink RX1 82 yX0_count, Cond.instanceMethod yX0_count, Cond.selects RX0 yX0_count yX0_count, Cond.initialized RX0, Cond.code yX0_count cX0_count 1 (some .int), Cond.fieldLink RX0 18 "BookIndex$Spans" "count" "I", Cond.methodLink RX1 136 yX0_first]
def wsX1_tallyHeadingsByPage_r2 : List Cond := [Cond.instanceMethod yX0_first, Cond.selects RX0 yX0_first yX0_first, Cond.code yX0_first cX0_first 2 (some .int), Cond.fieldLink RX0 9 "BookIndex$Spans" "firsts" "[I", Cond.methodLink RX1 232 yX1_tallyAt, Cond.instanceMethod yX1_tallyAt, Cond.selects RX1 yX1_tallyAt yX1_tallyAt, Cond.code yX1_tallyAt cX1_tallyAt 3 none, Cond.methodLink RX1 139 yX0_last, Cond.instanceMethod yX0_last, Cond.selects RX0 yX0_last yX0_last, Cond.code yX0_last cX0_last 2 (some .int), Cond.fieldLink RX0 15 "BookIndex$Spans" "lasts" "[I"]
def wsX1_tallyHeadingsByPage : List Cond := .code yX1_tallyHeadingsByPage cX1_tallyHeadingsByPage 2 none :: ((wsX1_tallyHeadingsByPage_r1 ++ wsX1_tallyHeadingsByPage_r2) ++ wsX10 ++ wsX00)
def wsX1_barePages_r1 : List Cond := [Cond.fieldLink RX1 40 "BookIndex" "pageCount" "I", Cond.fieldLink RX1 23 "BookIndex" "tally" "[I", Cond.methodLink RX1 149 yX1_tallyHeadingsByPage, Cond.instanceMethod yX1_tallyHeadingsByPage, Cond.selects RX1 yX1_tallyHeadingsByPage yX1_tallyHeadingsByPage, Cond.initialized RX1, Cond.code yX1_tallyHeadingsByPage cX1_tallyHeadingsByPage 2 none, Cond.fieldLink RX1 36 "BookIndex" "headingCount" "I", Cond.methodLink RX1 64 yX1_spansAt, Cond.instanceMethod yX1_spansAt, Cond.selects RX1 yX1_spansAt yX1_spansAt, Cond.code yX1_spansAt cX1_spansAt 3 (some (.object "BookIndex$Spans")), Cond.fieldLink RX1 11 "BookIndex" "spansByHeading" "[LBookIndex$Spans;", Cond.fieldLink RX1 33 "BookIndex" "noSpans" "LBookIndex$Spans;", Cond.methodLink RX1 209 yX1_isHeading, Cond.instanceMethod yX1_isHeading, Cond.selects RX1 yX1_isHeading yX1_isHeading, Cond.code yX1_isHeading cX1_isHeading 2 (some .boolean), Cond.methodLink RX1 229 yX1_tallyEnds, Cond.instanceMethod yX1_tallyEnds, Cond.selects RX1 yX1_tallyEnds yX1_tallyEnds, Cond.code yX1_tallyEnds cX1_tallyEnds 3 none, Cond.methodLink RX1 82 yX0_count, Cond.instanceMethod yX0_count]
def wsX1_barePages_r2 : List Cond := [Cond.selects RX0 yX0_count yX0_count, Cond.initialized RX0, Cond.code yX0_count cX0_count 1 (some .int), Cond.fieldLink RX0 18 "BookIndex$Spans" "count" "I", Cond.methodLink RX1 136 yX0_first, Cond.instanceMethod yX0_first, Cond.selects RX0 yX0_first yX0_first, Cond.code yX0_first cX0_first 2 (some .int), Cond.fieldLink RX0 9 "BookIndex$Spans" "firsts" "[I", Cond.methodLink RX1 232 yX1_tallyAt, Cond.instanceMethod yX1_tallyAt, Cond.selects RX1 yX1_tallyAt yX1_tallyAt, Cond.code yX1_tallyAt cX1_tallyAt 3 none, Cond.methodLink RX1 139 yX0_last, Cond.instanceMethod yX0_last, Cond.selects RX0 yX0_last yX0_last, Cond.code yX0_last cX0_last 2 (some .int), Cond.fieldLink RX0 15 "BookIndex$Spans" "lasts" "[I"]
def wsX1_barePages : List Cond := .code yX1_barePages cX1_barePages 3 (some .int) :: ((wsX1_barePages_r1 ++ wsX1_barePages_r2) ++ wsX10 ++ wsX00)
def wsX1_fullestPage_r1 : List Cond := [Cond.fieldLink RX1 40 "BookIndex" "pageCount" "I", Cond.fieldLink RX1 23 "BookIndex" "tally" "[I", Cond.methodLink RX1 149 yX1_tallyHeadingsByPage, Cond.instanceMethod yX1_tallyHeadingsByPage, Cond.selects RX1 yX1_tallyHeadingsByPage yX1_tallyHeadingsByPage, Cond.initialized RX1, Cond.code yX1_tallyHeadingsByPage cX1_tallyHeadingsByPage 2 none, Cond.fieldLink RX1 36 "BookIndex" "headingCount" "I", Cond.methodLink RX1 64 yX1_spansAt, Cond.instanceMethod yX1_spansAt, Cond.selects RX1 yX1_spansAt yX1_spansAt, Cond.code yX1_spansAt cX1_spansAt 3 (some (.object "BookIndex$Spans")), Cond.fieldLink RX1 11 "BookIndex" "spansByHeading" "[LBookIndex$Spans;", Cond.fieldLink RX1 33 "BookIndex" "noSpans" "LBookIndex$Spans;", Cond.methodLink RX1 209 yX1_isHeading, Cond.instanceMethod yX1_isHeading, Cond.selects RX1 yX1_isHeading yX1_isHeading, Cond.code yX1_isHeading cX1_isHeading 2 (some .boolean), Cond.methodLink RX1 229 yX1_tallyEnds, Cond.instanceMethod yX1_tallyEnds, Cond.selects RX1 yX1_tallyEnds yX1_tallyEnds, Cond.code yX1_tallyEnds cX1_tallyEnds 3 none, Cond.methodLink RX1 82 yX0_count, Cond.instanceMethod yX0_count]
def wsX1_fullestPage_r2 : List Cond := [Cond.selects RX0 yX0_count yX0_count, Cond.initialized RX0, Cond.code yX0_count cX0_count 1 (some .int), Cond.fieldLink RX0 18 "BookIndex$Spans" "count" "I", Cond.methodLink RX1 136 yX0_first, Cond.instanceMethod yX0_first, Cond.selects RX0 yX0_first yX0_first, Cond.code yX0_first cX0_first 2 (some .int), Cond.fieldLink RX0 9 "BookIndex$Spans" "firsts" "[I", Cond.methodLink RX1 232 yX1_tallyAt, Cond.instanceMethod yX1_tallyAt, Cond.selects RX1 yX1_tallyAt yX1_tallyAt, Cond.code yX1_tallyAt cX1_tallyAt 3 none, Cond.methodLink RX1 139 yX0_last, Cond.instanceMethod yX0_last, Cond.selects RX0 yX0_last yX0_last, Cond.code yX0_last cX0_last 2 (some .int), Cond.fieldLink RX0 15 "BookIndex$Spans" "lasts" "[I"]
def wsX1_fullestPage : List Cond := .code yX1_fullestPage cX1_fullestPage 3 (some .int) :: ((wsX1_fullestPage_r1 ++ wsX1_fullestPage_r2) ++ wsX10 ++ wsX00)
def wsX1_endOfSees : List Cond := .code yX1_endOfSees cX1_endOfSees 5 (some .int) :: ([.fieldLink RX1 36 "BookIndex" "headingCount" "I", .methodLink RX1 58 yX1_seeAt, .instanceMethod yX1_seeAt, .selects RX1 yX1_seeAt yX1_seeAt, .initialized RX1, .code yX1_seeAt cX1_seeAt 2 (some .int), .fieldLink RX1 16 "BookIndex" "sees" "[I", .methodLink RX1 209 yX1_isHeading, .instanceMethod yX1_isHeading, .selects RX1 yX1_isHeading yX1_isHeading, .code yX1_isHeading cX1_isHeading 2 (some .boolean)] ++ wsX10)
def wsX1_leadsTo : List Cond := .code yX1_leadsTo cX1_leadsTo 2 (some .int) :: ([.methodLink RX1 50 yX1_needHeading, .instanceMethod yX1_needHeading, .selects RX1 yX1_needHeading yX1_needHeading, .initialized RX1, .code yX1_needHeading cX1_needHeading 2 none, .classLink RX1 212 "java/lang/IndexOutOfBoundsException", .initialized "java/lang/IndexOutOfBoundsException", .methodLink RX1 209 yX1_isHeading, .instanceMethod yX1_isHeading, .selects RX1 yX1_isHeading yX1_isHeading, .code yX1_isHeading cX1_isHeading 2 (some .boolean), .fieldLink RX1 36 "BookIndex" "headingCount" "I", .methodLink RX1 152 yX1_endOfSees, .instanceMethod yX1_endOfSees, .selects RX1 yX1_endOfSees yX1_endOfSees, .code yX1_endOfSees cX1_endOfSees 5 (some .int), .methodLink RX1 58 yX1_seeAt, .instanceMethod yX1_seeAt, .selects RX1 yX1_seeAt yX1_seeAt, .code yX1_seeAt cX1_seeAt 2 (some .int), .fieldLink RX1 16 "BookIndex" "sees" "[I"] ++ wsX10 ++ (vx_atS RX1 216 "java/lang/IndexOutOfBoundsException" ["java/lang/RuntimeException", "java/lang/Exception"]).filter goodWord)
def wsX1_isVainEnd : List Cond := .code yX1_isVainEnd cX1_isVainEnd 2 (some .boolean) :: ([.methodLink RX1 64 yX1_spansAt, .instanceMethod yX1_spansAt, .selects RX1 yX1_spansAt yX1_spansAt, .initialized RX1, .code yX1_spansAt cX1_spansAt 3 (some (.object "BookIndex$Spans")), .fieldLink RX1 11 "BookIndex" "spansByHeading" "[LBookIndex$Spans;", .fieldLink RX1 33 "BookIndex" "noSpans" "LBookIndex$Spans;", .methodLink RX1 209 yX1_isHeading, .instanceMethod yX1_isHeading, .selects RX1 yX1_isHeading yX1_isHeading, .code yX1_isHeading cX1_isHeading 2 (some .boolean), .fieldLink RX1 36 "BookIndex" "headingCount" "I", .methodLink RX1 82 yX0_count, .instanceMethod yX0_count, .selects RX0 yX0_count yX0_count, .initialized RX0, .code yX0_count cX0_count 1 (some .int), .fieldLink RX0 18 "BookIndex$Spans" "count" "I"] ++ wsX10 ++ wsX00)
def wsX1_vainSees_r1 : List Cond := [Cond.fieldLink RX1 36 "BookIndex" "headingCount" "I", Cond.methodLink RX1 58 yX1_seeAt, Cond.instanceMethod yX1_seeAt, Cond.selects RX1 yX1_seeAt yX1_seeAt, Cond.initialized RX1, Cond.code yX1_seeAt cX1_seeAt 2 (some .int), Cond.fieldLink RX1 16 "BookIndex" "sees" "[I", Cond.methodLink RX1 209 yX1_isHeading, Cond.instanceMethod yX1_isHeading, Cond.selects RX1 yX1_isHeading yX1_isHeading, Cond.code yX1_isHeading cX1_isHeading 2 (some .boolean), Cond.methodLink RX1 152 yX1_endOfSees, Cond.instanceMethod yX1_endOfSees, Cond.selects RX1 yX1_endOfSees yX1_endOfSees, Cond.code yX1_endOfSees cX1_endOfSees 5 (some .int), Cond.methodLink RX1 155 yX1_isVainEnd, Cond.instanceMethod yX1_isVainEnd, Cond.selects RX1 yX1_isVainEnd yX1_isVainEnd, Cond.code yX1_isVainEnd cX1_isVainEnd 2 (some .boolean), Cond.methodLink RX1 64 yX1_spansAt, Cond.instanceMethod yX1_spansAt, Cond.selects RX1 yX1_spansAt yX1_spansAt, Cond.code yX1_spansAt cX1_spansAt 3 (some (.object "BookIndex$Spans")), Cond.fieldLink RX1 11 "BookIndex" "spansByHeading" "[LBookIndex$Spans;"]
def wsX1_vainSees_r2 : List Cond := [Cond.fieldLink RX1 33 "BookIndex" "noSpans" "LBookIndex$Spans;", Cond.methodLink RX1 82 yX0_count, Cond.instanceMethod yX0_count, Cond.selects RX0 yX0_count yX0_count, Cond.initialized RX0, Cond.code yX0_count cX0_count 1 (some .int), Cond.fieldLink RX0 18 "BookIndex$Spans" "count" "I"]
def wsX1_vainSees : List Cond := .code yX1_vainSees cX1_vainSees 3 (some .int) :: ((wsX1_vainSees_r1 ++ wsX1_vainSees_r2) ++ wsX10 ++ wsX00)
def wsX1_oneStepFrom : List Cond := .code yX1_oneStepFrom cX1_oneStepFrom 4 (some .int) :: ([.fieldLink RX1 36 "BookIndex" "headingCount" "I", .fieldLink RX1 20 "BookIndex" "seeAlsos" "[I", .fieldLink RX1 16 "BookIndex" "sees" "[I", .methodLink RX1 99 yX1_only, .static yX1_only, .initialized RX1, .code yX1_only cX1_only 1 (some .int)] ++ wsX10)
def wsX1_steps : List Cond := .code yX1_steps cX1_steps 5 (some .int) :: ([.methodLink RX1 50 yX1_needHeading, .instanceMethod yX1_needHeading, .selects RX1 yX1_needHeading yX1_needHeading, .initialized RX1, .code yX1_needHeading cX1_needHeading 2 none, .classLink RX1 212 "java/lang/IndexOutOfBoundsException", .initialized "java/lang/IndexOutOfBoundsException", .methodLink RX1 209 yX1_isHeading, .instanceMethod yX1_isHeading, .selects RX1 yX1_isHeading yX1_isHeading, .code yX1_isHeading cX1_isHeading 2 (some .boolean), .fieldLink RX1 36 "BookIndex" "headingCount" "I", .methodLink RX1 99 yX1_only, .static yX1_only, .code yX1_only cX1_only 1 (some .int), .methodLink RX1 158 yX1_oneStepFrom, .instanceMethod yX1_oneStepFrom, .selects RX1 yX1_oneStepFrom yX1_oneStepFrom, .code yX1_oneStepFrom cX1_oneStepFrom 4 (some .int), .fieldLink RX1 20 "BookIndex" "seeAlsos" "[I", .fieldLink RX1 16 "BookIndex" "sees" "[I"] ++ wsX10 ++ (vx_atS RX1 216 "java/lang/IndexOutOfBoundsException" ["java/lang/RuntimeException", "java/lang/Exception"]).filter goodWord)
def wsX1_allStepsFrom : List Cond := .code yX1_allStepsFrom cX1_allStepsFrom 5 (some .int) :: ([.fieldLink RX1 36 "BookIndex" "headingCount" "I", .methodLink RX1 158 yX1_oneStepFrom, .instanceMethod yX1_oneStepFrom, .selects RX1 yX1_oneStepFrom yX1_oneStepFrom, .initialized RX1, .code yX1_oneStepFrom cX1_oneStepFrom 4 (some .int), .fieldLink RX1 20 "BookIndex" "seeAlsos" "[I", .fieldLink RX1 16 "BookIndex" "sees" "[I", .methodLink RX1 99 yX1_only, .static yX1_only, .code yX1_only cX1_only 1 (some .int)] ++ wsX10)
def wsX1_countReached : List Cond := .code yX1_countReached cX1_countReached 2 (some .int) :: ([.methodLink RX1 99 yX1_only, .static yX1_only, .initialized RX1, .code yX1_only cX1_only 1 (some .int), .methodLink RX1 235 yX1_allStepsFrom, .instanceMethod yX1_allStepsFrom, .selects RX1 yX1_allStepsFrom yX1_allStepsFrom, .code yX1_allStepsFrom cX1_allStepsFrom 5 (some .int), .fieldLink RX1 36 "BookIndex" "headingCount" "I", .methodLink RX1 158 yX1_oneStepFrom, .instanceMethod yX1_oneStepFrom, .selects RX1 yX1_oneStepFrom yX1_oneStepFrom, .code yX1_oneStepFrom cX1_oneStepFrom 4 (some .int), .fieldLink RX1 20 "BookIndex" "seeAlsos" "[I", .fieldLink RX1 16 "BookIndex" "sees" "[I", .methodLink RX1 102 yJ6_bitCount_0f7a4, .static yJ6_bitCount_0f7a4, .initialized RJ6, .code yJ6_bitCount_0f7a4 cJ6_bitCount_0f7a4 1 (some .int), .constant RJ6 265 (1431655765), .constant RJ6 266 (858993459), .constant RJ6 267 (252645135)] ++ wsX10)
def wsX1_reachOf_r1 : List Cond := [Cond.methodLink RX1 50 yX1_needHeading, Cond.instanceMethod yX1_needHeading, Cond.selects RX1 yX1_needHeading yX1_needHeading, Cond.initialized RX1, Cond.code yX1_needHeading cX1_needHeading 2 none, Cond.classLink RX1 212 "java/lang/IndexOutOfBoundsException", Cond.initialized "java/lang/IndexOutOfBoundsException", Cond.methodLink RX1 209 yX1_isHeading, Cond.instanceMethod yX1_isHeading, Cond.selects RX1 yX1_isHeading yX1_isHeading, Cond.code yX1_isHeading cX1_isHeading 2 (some .boolean), Cond.fieldLink RX1 36 "BookIndex" "headingCount" "I", Cond.methodLink RX1 161 yX1_countReached, Cond.instanceMethod yX1_countReached, Cond.selects RX1 yX1_countReached yX1_countReached, Cond.code yX1_countReached cX1_countReached 2 (some .int), Cond.methodLink RX1 99 yX1_only, Cond.static yX1_only, Cond.code yX1_only cX1_only 1 (some .int), Cond.methodLink RX1 235 yX1_allStepsFrom, Cond.instanceMethod yX1_allStepsFrom, Cond.selects RX1 yX1_allStepsFrom yX1_allStepsFrom, Cond.code yX1_allStepsFrom cX1_allStepsFrom 5 (some .int), Cond.methodLink RX1 158 yX1_oneStepFrom]
def wsX1_reachOf_r2 : List Cond := [Cond.instanceMethod yX1_oneStepFrom, Cond.selects RX1 yX1_oneStepFrom yX1_oneStepFrom, Cond.code yX1_oneStepFrom cX1_oneStepFrom 4 (some .int), Cond.fieldLink RX1 20 "BookIndex" "seeAlsos" "[I", Cond.fieldLink RX1 16 "BookIndex" "sees" "[I", Cond.methodLink RX1 102 yJ6_bitCount_0f7a4, Cond.static yJ6_bitCount_0f7a4, Cond.initialized RJ6, Cond.code yJ6_bitCount_0f7a4 cJ6_bitCount_0f7a4 1 (some .int), Cond.constant RJ6 265 (1431655765), Cond.constant RJ6 266 (858993459), Cond.constant RJ6 267 (252645135)]
def wsX1_reachOf : List Cond := .code yX1_reachOf cX1_reachOf 2 (some .int) :: ((wsX1_reachOf_r1 ++ wsX1_reachOf_r2) ++ wsX10 ++ (vx_atS RX1 216 "java/lang/IndexOutOfBoundsException" ["java/lang/RuntimeException", "java/lang/Exception"]).filter goodWord)
def wsX1_comesBack : List Cond := .code yX1_comesBack cX1_comesBack 3 (some .boolean) :: ([.methodLink RX1 99 yX1_only, .static yX1_only, .initialized RX1, .code yX1_only cX1_only 1 (some .int), .methodLink RX1 158 yX1_oneStepFrom, .instanceMethod yX1_oneStepFrom, .selects RX1 yX1_oneStepFrom yX1_oneStepFrom, .code yX1_oneStepFrom cX1_oneStepFrom 4 (some .int), .fieldLink RX1 36 "BookIndex" "headingCount" "I", .fieldLink RX1 20 "BookIndex" "seeAlsos" "[I", .fieldLink RX1 16 "BookIndex" "sees" "[I", .methodLink RX1 235 yX1_allStepsFrom, .instanceMethod yX1_allStepsFrom, .selects RX1 yX1_allStepsFrom yX1_allStepsFrom, .code yX1_allStepsFrom cX1_allStepsFrom 5 (some .int)] ++ wsX10)
def wsX1_isInRing_r1 : List Cond := [Cond.methodLink RX1 50 yX1_needHeading, Cond.instanceMethod yX1_needHeading, Cond.selects RX1 yX1_needHeading yX1_needHeading, Cond.initialized RX1, Cond.code yX1_needHeading cX1_needHeading 2 none, Cond.classLink RX1 212 "java/lang/IndexOutOfBoundsException", Cond.initialized "java/lang/IndexOutOfBoundsException", Cond.methodLink RX1 209 yX1_isHeading, Cond.instanceMethod yX1_isHeading, Cond.selects RX1 yX1_isHeading yX1_isHeading, Cond.code yX1_isHeading cX1_isHeading 2 (some .boolean), Cond.fieldLink RX1 36 "BookIndex" "headingCount" "I", Cond.methodLink RX1 164 yX1_comesBack, Cond.instanceMethod yX1_comesBack, Cond.selects RX1 yX1_comesBack yX1_comesBack, Cond.code yX1_comesBack cX1_comesBack 3 (some .boolean), Cond.methodLink RX1 99 yX1_only, Cond.static yX1_only, Cond.code yX1_only cX1_only 1 (some .int), Cond.methodLink RX1 158 yX1_oneStepFrom, Cond.instanceMethod yX1_oneStepFrom, Cond.selects RX1 yX1_oneStepFrom yX1_oneStepFrom, Cond.code yX1_oneStepFrom cX1_oneStepFrom 4 (some .int), Cond.fieldLink RX1 20 "BookIndex" "seeAlsos" "[I"]
def wsX1_isInRing_r2 : List Cond := [Cond.fieldLink RX1 16 "BookIndex" "sees" "[I", Cond.methodLink RX1 235 yX1_allStepsFrom, Cond.instanceMethod yX1_allStepsFrom, Cond.selects RX1 yX1_allStepsFrom yX1_allStepsFrom, Cond.code yX1_allStepsFrom cX1_allStepsFrom 5 (some .int)]
def wsX1_isInRing : List Cond := .code yX1_isInRing cX1_isInRing 2 (some .boolean) :: ((wsX1_isInRing_r1 ++ wsX1_isInRing_r2) ++ wsX10 ++ (vx_atS RX1 216 "java/lang/IndexOutOfBoundsException" ["java/lang/RuntimeException", "java/lang/Exception"]).filter goodWord)
def wsX1_unled : List Cond := .code yX1_unled cX1_unled 2 (some .int) :: ([.fieldLink RX1 36 "BookIndex" "headingCount" "I", .methodLink RX1 158 yX1_oneStepFrom, .instanceMethod yX1_oneStepFrom, .selects RX1 yX1_oneStepFrom yX1_oneStepFrom, .initialized RX1, .code yX1_oneStepFrom cX1_oneStepFrom 4 (some .int), .fieldLink RX1 20 "BookIndex" "seeAlsos" "[I", .fieldLink RX1 16 "BookIndex" "sees" "[I", .methodLink RX1 99 yX1_only, .static yX1_only, .code yX1_only cX1_only 1 (some .int), .methodLink RX1 102 yJ6_bitCount_0f7a4, .static yJ6_bitCount_0f7a4, .initialized RJ6, .code yJ6_bitCount_0f7a4 cJ6_bitCount_0f7a4 1 (some .int), .constant RJ6 265 (1431655765), .constant RJ6 266 (858993459), .constant RJ6 267 (252645135)] ++ wsX10)
def wsX1_spansWithGap_r1 : List Cond := [Cond.classLink RX1 109 "java/lang/IllegalArgumentException", Cond.initialized "java/lang/IllegalArgumentException", Cond.fieldLink RX1 30 "BookIndex" "made" "LBookIndex$Spans;", Cond.methodLink RX1 50 yX1_needHeading, Cond.instanceMethod yX1_needHeading, Cond.selects RX1 yX1_needHeading yX1_needHeading, Cond.initialized RX1, Cond.code yX1_needHeading cX1_needHeading 2 none, Cond.classLink RX1 212 "java/lang/IndexOutOfBoundsException", Cond.initialized "java/lang/IndexOutOfBoundsException", Cond.methodLink RX1 209 yX1_isHeading, Cond.instanceMethod yX1_isHeading, Cond.selects RX1 yX1_isHeading yX1_isHeading, Cond.code yX1_isHeading cX1_isHeading 2 (some .boolean), Cond.fieldLink RX1 36 "BookIndex" "headingCount" "I", Cond.methodLink RX1 64 yX1_spansAt, Cond.instanceMethod yX1_spansAt, Cond.selects RX1 yX1_spansAt yX1_spansAt, Cond.code yX1_spansAt cX1_spansAt 3 (some (.object "BookIndex$Spans")), Cond.fieldLink RX1 11 "BookIndex" "spansByHeading" "[LBookIndex$Spans;", Cond.fieldLink RX1 33 "BookIndex" "noSpans" "LBookIndex$Spans;", Cond.methodLink RX1 169 yX0_becomeBridged, Cond.instanceMethod yX0_becomeBridged, Cond.selects RX0 yX0_becomeBridged yX0_becomeBridged]
def wsX1_spansWithGap_r2 : List Cond := [Cond.initialized RX0, Cond.code yX0_becomeBridged cX0_becomeBridged 4 none, Cond.fieldLink RX0 18 "BookIndex$Spans" "count" "I", Cond.fieldLink RX0 9 "BookIndex$Spans" "firsts" "[I", Cond.fieldLink RX0 15 "BookIndex$Spans" "lasts" "[I", Cond.methodLink RX0 31 yX0_append, Cond.instanceMethod yX0_append, Cond.selects RX0 yX0_append yX0_append, Cond.code yX0_append cX0_append 4 none, Cond.methodLink RX0 22 Lib.Math.max.name, Cond.static Lib.Math.max.name, Cond.initialized "java/lang/Math", Cond.code Lib.Math.max.name Lib.Math.max.code 2 (some .int), Cond.methodLink RX1 82 yX0_count, Cond.instanceMethod yX0_count, Cond.selects RX0 yX0_count yX0_count, Cond.code yX0_count cX0_count 1 (some .int)]
def wsX1_spansWithGap : List Cond := .code yX1_spansWithGap cX1_spansWithGap 3 (some .int) :: ((wsX1_spansWithGap_r1 ++ wsX1_spansWithGap_r2) ++ wsX10 ++ wsX00 ++ (vx_atS RX1 113 "java/lang/IllegalArgumentException" ["java/lang/RuntimeException", "java/lang/Exception"]).filter goodWord ++ (vx_atS RX1 216 "java/lang/IndexOutOfBoundsException" ["java/lang/RuntimeException", "java/lang/Exception"]).filter goodWord)
def wsX1_commonPages_r1 : List Cond := [Cond.methodLink RX1 50 yX1_needHeading, Cond.instanceMethod yX1_needHeading, Cond.selects RX1 yX1_needHeading yX1_needHeading, Cond.initialized RX1, Cond.code yX1_needHeading cX1_needHeading 2 none, Cond.classLink RX1 212 "java/lang/IndexOutOfBoundsException", Cond.initialized "java/lang/IndexOutOfBoundsException", Cond.methodLink RX1 209 yX1_isHeading, Cond.instanceMethod yX1_isHeading, Cond.selects RX1 yX1_isHeading yX1_isHeading, Cond.code yX1_isHeading cX1_isHeading 2 (some .boolean), Cond.fieldLink RX1 36 "BookIndex" "headingCount" "I", Cond.methodLink RX1 64 yX1_spansAt, Cond.instanceMethod yX1_spansAt, Cond.selects RX1 yX1_spansAt yX1_spansAt, Cond.code yX1_spansAt cX1_spansAt 3 (some (.object "BookIndex$Spans")), Cond.fieldLink RX1 11 "BookIndex" "spansByHeading" "[LBookIndex$Spans;", Cond.fieldLink RX1 33 "BookIndex" "noSpans" "LBookIndex$Spans;", Cond.methodLink RX1 172 yX0_pagesInCommon, Cond.instanceMethod yX0_pagesInCommon, Cond.selects RX0 yX0_pagesInCommon yX0_pagesInCommon, Cond.initialized RX0, Cond.code yX0_pagesInCommon cX0_pagesInCommon 8 (some .int), Cond.fieldLink RX0 18 "BookIndex$Spans" "count" "I"]
def wsX1_commonPages_r2 : List Cond := [Cond.fieldLink RX0 9 "BookIndex$Spans" "firsts" "[I", Cond.methodLink RX0 22 Lib.Math.max.name, Cond.static Lib.Math.max.name, Cond.initialized "java/lang/Math", Cond.code Lib.Math.max.name Lib.Math.max.code 2 (some .int), Cond.fieldLink RX0 15 "BookIndex$Spans" "lasts" "[I", Cond.methodLink RX0 28 Lib.Math.min.name, Cond.static Lib.Math.min.name, Cond.code Lib.Math.min.name Lib.Math.min.code 2 (some .int)]
def wsX1_commonPages : List Cond := .code yX1_commonPages cX1_commonPages 3 (some .int) :: ((wsX1_commonPages_r1 ++ wsX1_commonPages_r2) ++ wsX10 ++ wsX00 ++ (vx_atS RX1 216 "java/lang/IndexOutOfBoundsException" ["java/lang/RuntimeException", "java/lang/Exception"]).filter goodWord)
def wsX1_nearestOther_r1 : List Cond := [Cond.fieldLink RX1 36 "BookIndex" "headingCount" "I", Cond.methodLink RX1 64 yX1_spansAt, Cond.instanceMethod yX1_spansAt, Cond.selects RX1 yX1_spansAt yX1_spansAt, Cond.initialized RX1, Cond.code yX1_spansAt cX1_spansAt 3 (some (.object "BookIndex$Spans")), Cond.fieldLink RX1 11 "BookIndex" "spansByHeading" "[LBookIndex$Spans;", Cond.fieldLink RX1 33 "BookIndex" "noSpans" "LBookIndex$Spans;", Cond.methodLink RX1 209 yX1_isHeading, Cond.instanceMethod yX1_isHeading, Cond.selects RX1 yX1_isHeading yX1_isHeading, Cond.code yX1_isHeading cX1_isHeading 2 (some .boolean), Cond.methodLink RX1 172 yX0_pagesInCommon, Cond.instanceMethod yX0_pagesInCommon, Cond.selects RX0 yX0_pagesInCommon yX0_pagesInCommon, Cond.initialized RX0, Cond.code yX0_pagesInCommon cX0_pagesInCommon 8 (some .int), Cond.fieldLink RX0 18 "BookIndex$Spans" "count" "I", Cond.fieldLink RX0 9 "BookIndex$Spans" "firsts" "[I", Cond.methodLink RX0 22 Lib.Math.max.name, Cond.static Lib.Math.max.name, Cond.initialized "java/lang/Math", Cond.code Lib.Math.max.name Lib.Math.max.code 2 (some .int), Cond.fieldLink RX0 15 "BookIndex$Spans" "lasts" "[I"]
def wsX1_nearestOther_r2 : List Cond := [Cond.methodLink RX0 28 Lib.Math.min.name, Cond.static Lib.Math.min.name, Cond.code Lib.Math.min.name Lib.Math.min.code 2 (some .int)]
def wsX1_nearestOther : List Cond := .code yX1_nearestOther cX1_nearestOther 6 (some .int) :: ((wsX1_nearestOther_r1 ++ wsX1_nearestOther_r2) ++ wsX10 ++ wsX00)
def wsX1_nearest_r1 : List Cond := [Cond.methodLink RX1 50 yX1_needHeading, Cond.instanceMethod yX1_needHeading, Cond.selects RX1 yX1_needHeading yX1_needHeading, Cond.initialized RX1, Cond.code yX1_needHeading cX1_needHeading 2 none, Cond.classLink RX1 212 "java/lang/IndexOutOfBoundsException", Cond.initialized "java/lang/IndexOutOfBoundsException", Cond.methodLink RX1 209 yX1_isHeading, Cond.instanceMethod yX1_isHeading, Cond.selects RX1 yX1_isHeading yX1_isHeading, Cond.code yX1_isHeading cX1_isHeading 2 (some .boolean), Cond.fieldLink RX1 36 "BookIndex" "headingCount" "I", Cond.methodLink RX1 176 yX1_nearestOther, Cond.instanceMethod yX1_nearestOther, Cond.selects RX1 yX1_nearestOther yX1_nearestOther, Cond.code yX1_nearestOther cX1_nearestOther 6 (some .int), Cond.methodLink RX1 64 yX1_spansAt, Cond.instanceMethod yX1_spansAt, Cond.selects RX1 yX1_spansAt yX1_spansAt, Cond.code yX1_spansAt cX1_spansAt 3 (some (.object "BookIndex$Spans")), Cond.fieldLink RX1 11 "BookIndex" "spansByHeading" "[LBookIndex$Spans;", Cond.fieldLink RX1 33 "BookIndex" "noSpans" "LBookIndex$Spans;", Cond.methodLink RX1 172 yX0_pagesInCommon, Cond.instanceMethod yX0_pagesInCommon]
def wsX1_nearest_r2 : List Cond := [Cond.selects RX0 yX0_pagesInCommon yX0_pagesInCommon, Cond.initialized RX0, Cond.code yX0_pagesInCommon cX0_pagesInCommon 8 (some .int), Cond.fieldLink RX0 18 "BookIndex$Spans" "count" "I", Cond.fieldLink RX0 9 "BookIndex$Spans" "firsts" "[I", Cond.methodLink RX0 22 Lib.Math.max.name, Cond.static Lib.Math.max.name, Cond.initialized "java/lang/Math", Cond.code Lib.Math.max.name Lib.Math.max.code 2 (some .int), Cond.fieldLink RX0 15 "BookIndex$Spans" "lasts" "[I", Cond.methodLink RX0 28 Lib.Math.min.name, Cond.static Lib.Math.min.name, Cond.code Lib.Math.min.name Lib.Math.min.code 2 (some .int)]
def wsX1_nearest : List Cond := .code yX1_nearest cX1_nearest 2 (some .int) :: ((wsX1_nearest_r1 ++ wsX1_nearest_r2) ++ wsX10 ++ wsX00 ++ (vx_atS RX1 216 "java/lang/IndexOutOfBoundsException" ["java/lang/RuntimeException", "java/lang/Exception"]).filter goodWord)
def wsX1_spansTogether_r1 : List Cond := [Cond.fieldLink RX1 30 "BookIndex" "made" "LBookIndex$Spans;", Cond.methodLink RX1 50 yX1_needHeading, Cond.instanceMethod yX1_needHeading, Cond.selects RX1 yX1_needHeading yX1_needHeading, Cond.initialized RX1, Cond.code yX1_needHeading cX1_needHeading 2 none, Cond.classLink RX1 212 "java/lang/IndexOutOfBoundsException", Cond.initialized "java/lang/IndexOutOfBoundsException", Cond.methodLink RX1 209 yX1_isHeading, Cond.instanceMethod yX1_isHeading, Cond.selects RX1 yX1_isHeading yX1_isHeading, Cond.code yX1_isHeading cX1_isHeading 2 (some .boolean), Cond.fieldLink RX1 36 "BookIndex" "headingCount" "I", Cond.methodLink RX1 64 yX1_spansAt, Cond.instanceMethod yX1_spansAt, Cond.selects RX1 yX1_spansAt yX1_spansAt, Cond.code yX1_spansAt cX1_spansAt 3 (some (.object "BookIndex$Spans")), Cond.fieldLink RX1 11 "BookIndex" "spansByHeading" "[LBookIndex$Spans;", Cond.fieldLink RX1 33 "BookIndex" "noSpans" "LBookIndex$Spans;", Cond.methodLink RX1 71 yX0_becomeUnion, Cond.instanceMethod yX0_becomeUnion, Cond.selects RX0 yX0_becomeUnion yX0_becomeUnion, Cond.initialized RX0, Cond.code yX0_becomeUnion cX0_becomeUnion 7 none]
def wsX1_spansTogether_r2 : List Cond := [Cond.fieldLink RX0 18 "BookIndex$Spans" "count" "I", Cond.fieldLink RX0 9 "BookIndex$Spans" "firsts" "[I", Cond.methodLink RX0 39 yX0_first, Cond.instanceMethod yX0_first, Cond.selects RX0 yX0_first yX0_first, Cond.code yX0_first cX0_first 2 (some .int), Cond.methodLink RX0 43 yX0_last, Cond.instanceMethod yX0_last, Cond.selects RX0 yX0_last yX0_last, Cond.code yX0_last cX0_last 2 (some .int), Cond.fieldLink RX0 15 "BookIndex$Spans" "lasts" "[I", Cond.methodLink RX0 31 yX0_append, Cond.instanceMethod yX0_append, Cond.selects RX0 yX0_append yX0_append, Cond.code yX0_append cX0_append 4 none, Cond.methodLink RX0 22 Lib.Math.max.name, Cond.static Lib.Math.max.name, Cond.initialized "java/lang/Math", Cond.code Lib.Math.max.name Lib.Math.max.code 2 (some .int), Cond.methodLink RX1 82 yX0_count, Cond.instanceMethod yX0_count, Cond.selects RX0 yX0_count yX0_count, Cond.code yX0_count cX0_count 1 (some .int)]
def wsX1_spansTogether : List Cond := .code yX1_spansTogether cX1_spansTogether 3 (some .int) :: ((wsX1_spansTogether_r1 ++ wsX1_spansTogether_r2) ++ wsX10 ++ wsX00 ++ (vx_atS RX1 216 "java/lang/IndexOutOfBoundsException" ["java/lang/RuntimeException", "java/lang/Exception"]).filter goodWord)
def wsX1_meanPages : List Cond := .code yX1_meanPages cX1_meanPages 5 (some .double) :: ([.fieldLink RX1 36 "BookIndex" "headingCount" "I", .methodLink RX1 64 yX1_spansAt, .instanceMethod yX1_spansAt, .selects RX1 yX1_spansAt yX1_spansAt, .initialized RX1, .code yX1_spansAt cX1_spansAt 3 (some (.object "BookIndex$Spans")), .fieldLink RX1 11 "BookIndex" "spansByHeading" "[LBookIndex$Spans;", .fieldLink RX1 33 "BookIndex" "noSpans" "LBookIndex$Spans;", .methodLink RX1 209 yX1_isHeading, .instanceMethod yX1_isHeading, .selects RX1 yX1_isHeading yX1_isHeading, .code yX1_isHeading cX1_isHeading 2 (some .boolean), .methodLink RX1 90 yX0_pages, .instanceMethod yX0_pages, .selects RX0 yX0_pages yX0_pages, .initialized RX0, .code yX0_pages cX0_pages 3 (some .int), .fieldLink RX0 18 "BookIndex$Spans" "count" "I", .fieldLink RX0 15 "BookIndex$Spans" "lasts" "[I", .fieldLink RX0 9 "BookIndex$Spans" "firsts" "[I"] ++ wsX10 ++ wsX00)
def wsX1_digestWith : List Cond := .code yX1_digestWith cX1_digestWith 4 (some .long) :: ([.constantLong RX1 207 (31)])
def wsX1_digestWithHeading_r1 : List Cond := [Cond.methodLink RX1 64 yX1_spansAt, Cond.instanceMethod yX1_spansAt, Cond.selects RX1 yX1_spansAt yX1_spansAt, Cond.initialized RX1, Cond.code yX1_spansAt cX1_spansAt 3 (some (.object "BookIndex$Spans")), Cond.fieldLink RX1 11 "BookIndex" "spansByHeading" "[LBookIndex$Spans;", Cond.fieldLink RX1 33 "BookIndex" "noSpans" "LBookIndex$Spans;", Cond.methodLink RX1 209 yX1_isHeading, Cond.instanceMethod yX1_isHeading, Cond.selects RX1 yX1_isHeading yX1_isHeading, Cond.code yX1_isHeading cX1_isHeading 2 (some .boolean), Cond.fieldLink RX1 36 "BookIndex" "headingCount" "I", Cond.methodLink RX1 82 yX0_count, Cond.instanceMethod yX0_count, Cond.selects RX0 yX0_count yX0_count, Cond.initialized RX0, Cond.code yX0_count cX0_count 1 (some .int), Cond.fieldLink RX0 18 "BookIndex$Spans" "count" "I", Cond.methodLink RX1 184 yX1_digestWith, Cond.static yX1_digestWith, Cond.code yX1_digestWith cX1_digestWith 4 (some .long), Cond.constantLong RX1 207 (31), Cond.methodLink RX1 90 yX0_pages, Cond.instanceMethod yX0_pages]
def wsX1_digestWithHeading_r2 : List Cond := [Cond.selects RX0 yX0_pages yX0_pages, Cond.code yX0_pages cX0_pages 3 (some .int), Cond.fieldLink RX0 15 "BookIndex$Spans" "lasts" "[I", Cond.fieldLink RX0 9 "BookIndex$Spans" "firsts" "[I", Cond.methodLink RX1 58 yX1_seeAt, Cond.instanceMethod yX1_seeAt, Cond.selects RX1 yX1_seeAt yX1_seeAt, Cond.code yX1_seeAt cX1_seeAt 2 (some .int), Cond.fieldLink RX1 16 "BookIndex" "sees" "[I", Cond.methodLink RX1 142 yX1_countSeeAlsos, Cond.instanceMethod yX1_countSeeAlsos, Cond.selects RX1 yX1_countSeeAlsos yX1_countSeeAlsos, Cond.code yX1_countSeeAlsos cX1_countSeeAlsos 2 (some .int), Cond.fieldLink RX1 20 "BookIndex" "seeAlsos" "[I", Cond.methodLink RX1 102 yJ6_bitCount_0f7a4, Cond.static yJ6_bitCount_0f7a4, Cond.initialized RJ6, Cond.code yJ6_bitCount_0f7a4 cJ6_bitCount_0f7a4 1 (some .int), Cond.constant RJ6 265 (1431655765), Cond.constant RJ6 266 (858993459), Cond.constant RJ6 267 (252645135), Cond.methodLink RX1 152 yX1_endOfSees, Cond.instanceMethod yX1_endOfSees, Cond.selects RX1 yX1_endOfSees yX1_endOfSees]
def wsX1_digestWithHeading_r3 : List Cond := [Cond.code yX1_endOfSees cX1_endOfSees 5 (some .int), Cond.methodLink RX1 161 yX1_countReached, Cond.instanceMethod yX1_countReached, Cond.selects RX1 yX1_countReached yX1_countReached, Cond.code yX1_countReached cX1_countReached 2 (some .int), Cond.methodLink RX1 99 yX1_only, Cond.static yX1_only, Cond.code yX1_only cX1_only 1 (some .int), Cond.methodLink RX1 235 yX1_allStepsFrom, Cond.instanceMethod yX1_allStepsFrom, Cond.selects RX1 yX1_allStepsFrom yX1_allStepsFrom, Cond.code yX1_allStepsFrom cX1_allStepsFrom 5 (some .int), Cond.methodLink RX1 158 yX1_oneStepFrom, Cond.instanceMethod yX1_oneStepFrom, Cond.selects RX1 yX1_oneStepFrom yX1_oneStepFrom, Cond.code yX1_oneStepFrom cX1_oneStepFrom 4 (some .int), Cond.methodLink RX1 164 yX1_comesBack, Cond.instanceMethod yX1_comesBack, Cond.selects RX1 yX1_comesBack yX1_comesBack, Cond.code yX1_comesBack cX1_comesBack 3 (some .boolean), Cond.methodLink RX1 176 yX1_nearestOther, Cond.instanceMethod yX1_nearestOther, Cond.selects RX1 yX1_nearestOther yX1_nearestOther, Cond.code yX1_nearestOther cX1_nearestOther 6 (some .int)]
def wsX1_digestWithHeading_r4 : List Cond := [Cond.methodLink RX1 172 yX0_pagesInCommon, Cond.instanceMethod yX0_pagesInCommon, Cond.selects RX0 yX0_pagesInCommon yX0_pagesInCommon, Cond.code yX0_pagesInCommon cX0_pagesInCommon 8 (some .int), Cond.methodLink RX0 22 Lib.Math.max.name, Cond.static Lib.Math.max.name, Cond.initialized "java/lang/Math", Cond.code Lib.Math.max.name Lib.Math.max.code 2 (some .int), Cond.methodLink RX0 28 Lib.Math.min.name, Cond.static Lib.Math.min.name, Cond.code Lib.Math.min.name Lib.Math.min.code 2 (some .int), Cond.methodLink RX1 136 yX0_first, Cond.instanceMethod yX0_first, Cond.selects RX0 yX0_first yX0_first, Cond.code yX0_first cX0_first 2 (some .int), Cond.methodLink RX1 139 yX0_last, Cond.instanceMethod yX0_last, Cond.selects RX0 yX0_last yX0_last, Cond.code yX0_last cX0_last 2 (some .int)]
def wsX1_digestWithHeading : List Cond := .code yX1_digestWithHeading cX1_digestWithHeading 8 (some .long) :: ((wsX1_digestWithHeading_r1 ++ (wsX1_digestWithHeading_r2 ++ (wsX1_digestWithHeading_r3 ++ wsX1_digestWithHeading_r4))) ++ wsX10 ++ wsX00)
def wsX1_digest_r1 : List Cond := [Cond.constantLong RX1 179 (2113), Cond.fieldLink RX1 36 "BookIndex" "headingCount" "I", Cond.methodLink RX1 181 yX1_bookPages, Cond.instanceMethod yX1_bookPages, Cond.selects RX1 yX1_bookPages yX1_bookPages, Cond.initialized RX1, Cond.code yX1_bookPages cX1_bookPages 1 (some .int), Cond.fieldLink RX1 40 "BookIndex" "pageCount" "I", Cond.methodLink RX1 184 yX1_digestWith, Cond.static yX1_digestWith, Cond.code yX1_digestWith cX1_digestWith 4 (some .long), Cond.constantLong RX1 207 (31), Cond.methodLink RX1 188 yX1_headings, Cond.instanceMethod yX1_headings, Cond.selects RX1 yX1_headings yX1_headings, Cond.code yX1_headings cX1_headings 1 (some .int), Cond.methodLink RX1 191 yX1_barePages, Cond.instanceMethod yX1_barePages, Cond.selects RX1 yX1_barePages yX1_barePages, Cond.code yX1_barePages cX1_barePages 3 (some .int), Cond.fieldLink RX1 23 "BookIndex" "tally" "[I", Cond.methodLink RX1 149 yX1_tallyHeadingsByPage, Cond.instanceMethod yX1_tallyHeadingsByPage, Cond.selects RX1 yX1_tallyHeadingsByPage yX1_tallyHeadingsByPage]
def wsX1_digest_r2 : List Cond := [Cond.code yX1_tallyHeadingsByPage cX1_tallyHeadingsByPage 2 none, Cond.methodLink RX1 64 yX1_spansAt, Cond.instanceMethod yX1_spansAt, Cond.selects RX1 yX1_spansAt yX1_spansAt, Cond.code yX1_spansAt cX1_spansAt 3 (some (.object "BookIndex$Spans")), Cond.fieldLink RX1 11 "BookIndex" "spansByHeading" "[LBookIndex$Spans;", Cond.fieldLink RX1 33 "BookIndex" "noSpans" "LBookIndex$Spans;", Cond.methodLink RX1 209 yX1_isHeading, Cond.instanceMethod yX1_isHeading, Cond.selects RX1 yX1_isHeading yX1_isHeading, Cond.code yX1_isHeading cX1_isHeading 2 (some .boolean), Cond.methodLink RX1 229 yX1_tallyEnds, Cond.instanceMethod yX1_tallyEnds, Cond.selects RX1 yX1_tallyEnds yX1_tallyEnds, Cond.code yX1_tallyEnds cX1_tallyEnds 3 none, Cond.methodLink RX1 82 yX0_count, Cond.instanceMethod yX0_count, Cond.selects RX0 yX0_count yX0_count, Cond.initialized RX0, Cond.code yX0_count cX0_count 1 (some .int), Cond.fieldLink RX0 18 "BookIndex$Spans" "count" "I", Cond.methodLink RX1 136 yX0_first, Cond.instanceMethod yX0_first, Cond.selects RX0 yX0_first yX0_first]
def wsX1_digest_r3 : List Cond := [Cond.code yX0_first cX0_first 2 (some .int), Cond.fieldLink RX0 9 "BookIndex$Spans" "firsts" "[I", Cond.methodLink RX1 232 yX1_tallyAt, Cond.instanceMethod yX1_tallyAt, Cond.selects RX1 yX1_tallyAt yX1_tallyAt, Cond.code yX1_tallyAt cX1_tallyAt 3 none, Cond.methodLink RX1 139 yX0_last, Cond.instanceMethod yX0_last, Cond.selects RX0 yX0_last yX0_last, Cond.code yX0_last cX0_last 2 (some .int), Cond.fieldLink RX0 15 "BookIndex$Spans" "lasts" "[I", Cond.methodLink RX1 194 yX1_fullestPage, Cond.instanceMethod yX1_fullestPage, Cond.selects RX1 yX1_fullestPage yX1_fullestPage, Cond.code yX1_fullestPage cX1_fullestPage 3 (some .int), Cond.methodLink RX1 197 yX1_vainSees, Cond.instanceMethod yX1_vainSees, Cond.selects RX1 yX1_vainSees yX1_vainSees, Cond.code yX1_vainSees cX1_vainSees 3 (some .int), Cond.methodLink RX1 58 yX1_seeAt, Cond.instanceMethod yX1_seeAt, Cond.selects RX1 yX1_seeAt yX1_seeAt, Cond.code yX1_seeAt cX1_seeAt 2 (some .int), Cond.fieldLink RX1 16 "BookIndex" "sees" "[I"]
def wsX1_digest_r4 : List Cond := [Cond.methodLink RX1 152 yX1_endOfSees, Cond.instanceMethod yX1_endOfSees, Cond.selects RX1 yX1_endOfSees yX1_endOfSees, Cond.code yX1_endOfSees cX1_endOfSees 5 (some .int), Cond.methodLink RX1 155 yX1_isVainEnd, Cond.instanceMethod yX1_isVainEnd, Cond.selects RX1 yX1_isVainEnd yX1_isVainEnd, Cond.code yX1_isVainEnd cX1_isVainEnd 2 (some .boolean), Cond.methodLink RX1 200 yX1_unled, Cond.instanceMethod yX1_unled, Cond.selects RX1 yX1_unled yX1_unled, Cond.code yX1_unled cX1_unled 2 (some .int), Cond.methodLink RX1 158 yX1_oneStepFrom, Cond.instanceMethod yX1_oneStepFrom, Cond.selects RX1 yX1_oneStepFrom yX1_oneStepFrom, Cond.code yX1_oneStepFrom cX1_oneStepFrom 4 (some .int), Cond.fieldLink RX1 20 "BookIndex" "seeAlsos" "[I", Cond.methodLink RX1 99 yX1_only, Cond.static yX1_only, Cond.code yX1_only cX1_only 1 (some .int), Cond.methodLink RX1 102 yJ6_bitCount_0f7a4, Cond.static yJ6_bitCount_0f7a4, Cond.initialized RJ6, Cond.code yJ6_bitCount_0f7a4 cJ6_bitCount_0f7a4 1 (some .int)]
def wsX1_digest_r5 : List Cond := [Cond.constant RJ6 265 (1431655765), Cond.constant RJ6 266 (858993459), Cond.constant RJ6 267 (252645135), Cond.methodLink RX1 203 yX1_digestWithHeading, Cond.instanceMethod yX1_digestWithHeading, Cond.selects RX1 yX1_digestWithHeading yX1_digestWithHeading, Cond.code yX1_digestWithHeading cX1_digestWithHeading 8 (some .long), Cond.methodLink RX1 90 yX0_pages, Cond.instanceMethod yX0_pages, Cond.selects RX0 yX0_pages yX0_pages, Cond.code yX0_pages cX0_pages 3 (some .int), Cond.methodLink RX1 142 yX1_countSeeAlsos, Cond.instanceMethod yX1_countSeeAlsos, Cond.selects RX1 yX1_countSeeAlsos yX1_countSeeAlsos, Cond.code yX1_countSeeAlsos cX1_countSeeAlsos 2 (some .int), Cond.methodLink RX1 161 yX1_countReached, Cond.instanceMethod yX1_countReached, Cond.selects RX1 yX1_countReached yX1_countReached, Cond.code yX1_countReached cX1_countReached 2 (some .int), Cond.methodLink RX1 235 yX1_allStepsFrom, Cond.instanceMethod yX1_allStepsFrom, Cond.selects RX1 yX1_allStepsFrom yX1_allStepsFrom, Cond.code yX1_allStepsFrom cX1_allStepsFrom 5 (some .int), Cond.methodLink RX1 164 yX1_comesBack]
def wsX1_digest_r6 : List Cond := [Cond.instanceMethod yX1_comesBack, Cond.selects RX1 yX1_comesBack yX1_comesBack, Cond.code yX1_comesBack cX1_comesBack 3 (some .boolean), Cond.methodLink RX1 176 yX1_nearestOther, Cond.instanceMethod yX1_nearestOther, Cond.selects RX1 yX1_nearestOther yX1_nearestOther, Cond.code yX1_nearestOther cX1_nearestOther 6 (some .int), Cond.methodLink RX1 172 yX0_pagesInCommon, Cond.instanceMethod yX0_pagesInCommon, Cond.selects RX0 yX0_pagesInCommon yX0_pagesInCommon, Cond.code yX0_pagesInCommon cX0_pagesInCommon 8 (some .int), Cond.methodLink RX0 22 Lib.Math.max.name, Cond.static Lib.Math.max.name, Cond.initialized "java/lang/Math", Cond.code Lib.Math.max.name Lib.Math.max.code 2 (some .int), Cond.methodLink RX0 28 Lib.Math.min.name, Cond.static Lib.Math.min.name, Cond.code Lib.Math.min.name Lib.Math.min.code 2 (some .int)]
def wsX1_digest : List Cond := .code yX1_digest cX1_digest 4 (some .long) :: ((wsX1_digest_r1 ++ (wsX1_digest_r2 ++ (wsX1_digest_r3 ++ (wsX1_digest_r4 ++ (wsX1_digest_r5 ++ wsX1_digest_r6))))) ++ wsX10 ++ wsX00)
def wsX2_init : List Cond := .code yX2_init cX2_init 1 none :: ([.methodLink RX2 3 objectInit, .instanceMethod objectInit, .code objectInit ⟨#[0xb1]⟩ 1 none, .fieldLink RX2 9 "BookIndexModel" "pages" "I", .arrayClass .boolean, .fieldLink RX2 13 "BookIndexModel" "on" "[Z", .arrayClass .int, .fieldLink RX2 17 "BookIndexModel" "see" "[I", .fieldLink RX2 21 "BookIndexModel" "also" "[I"] ++ wsX20)
def wsX2_thrown : List Cond := .code yX2_thrown cX2_thrown 1 (some .int) :: ([.fieldLink RX2 24 "BookIndexModel" "thrown" "I"] ++ wsX20)
def wsX2_no : List Cond := .code yX2_no cX2_no 2 (some .int) :: ([.fieldLink RX2 24 "BookIndexModel" "thrown" "I"] ++ wsX20)
def wsX2_isNot : List Cond := .code yX2_isNot cX2_isNot 2 (some .boolean) :: ([.fieldLink RX2 24 "BookIndexModel" "thrown" "I"] ++ wsX20)
def wsX2_ok : List Cond := .code yX2_ok cX2_ok 2 (some .int) :: ([.fieldLink RX2 24 "BookIndexModel" "thrown" "I"] ++ wsX20)
def wsX2_isIn : List Cond := .code yX2_isIn cX2_isIn 3 (some .boolean) :: ([])
def wsX2_isHeading : List Cond := .code yX2_isHeading cX2_isHeading 2 (some .boolean) :: ([.fieldLink RX2 27 "BookIndexModel" "headings" "I", .methodLink RX2 30 yX2_isIn, .static yX2_isIn, .initialized RX2, .code yX2_isIn cX2_isIn 3 (some .boolean)] ++ wsX20)
def wsX2_isPage : List Cond := .code yX2_isPage cX2_isPage 2 (some .boolean) :: ([.fieldLink RX2 9 "BookIndexModel" "pages" "I", .methodLink RX2 30 yX2_isIn, .static yX2_isIn, .initialized RX2, .code yX2_isIn cX2_isIn 3 (some .boolean)] ++ wsX20)
def wsX2_arePages : List Cond := .code yX2_arePages cX2_arePages 3 (some .boolean) :: ([.fieldLink RX2 9 "BookIndexModel" "pages" "I"] ++ wsX20)
def wsX2_has : List Cond := .code yX2_has cX2_has 3 (some .boolean) :: ([.fieldLink RX2 13 "BookIndexModel" "on" "[Z"] ++ wsX20)
def wsX2_let : List Cond := .code yX2_let cX2_let 4 none :: ([.fieldLink RX2 13 "BookIndexModel" "on" "[Z"] ++ wsX20)
def wsX2_spans : List Cond := .code yX2_spans cX2_spans 7 (some .int) :: ([.fieldLink RX2 9 "BookIndexModel" "pages" "I", .methodLink RX2 34 yX2_has, .instanceMethod yX2_has, .selects RX2 yX2_has yX2_has, .initialized RX2, .code yX2_has cX2_has 3 (some .boolean), .fieldLink RX2 13 "BookIndexModel" "on" "[Z"] ++ wsX20)
def wsX2_spansWith : List Cond := .code yX2_spansWith cX2_spansWith 9 (some .int) :: ([.fieldLink RX2 9 "BookIndexModel" "pages" "I", .methodLink RX2 30 yX2_isIn, .static yX2_isIn, .initialized RX2, .code yX2_isIn cX2_isIn 3 (some .boolean), .methodLink RX2 34 yX2_has, .instanceMethod yX2_has, .selects RX2 yX2_has yX2_has, .code yX2_has cX2_has 3 (some .boolean), .fieldLink RX2 13 "BookIndexModel" "on" "[Z"] ++ wsX20)
def wsX2_many : List Cond := .code yX2_many cX2_many 4 (some .int) :: ([.fieldLink RX2 9 "BookIndexModel" "pages" "I", .methodLink RX2 34 yX2_has, .instanceMethod yX2_has, .selects RX2 yX2_has yX2_has, .initialized RX2, .code yX2_has cX2_has 3 (some .boolean), .fieldLink RX2 13 "BookIndexModel" "on" "[Z"] ++ wsX20)
def wsX2_begins : List Cond := .code yX2_begins cX2_begins 5 (some .int) :: ([.methodLink RX2 34 yX2_has, .instanceMethod yX2_has, .selects RX2 yX2_has yX2_has, .initialized RX2, .code yX2_has cX2_has 3 (some .boolean), .fieldLink RX2 13 "BookIndexModel" "on" "[Z"] ++ wsX20)
def wsX2_ends : List Cond := .code yX2_ends cX2_ends 4 (some .int) :: ([.methodLink RX2 38 yX2_begins, .instanceMethod yX2_begins, .selects RX2 yX2_begins yX2_begins, .initialized RX2, .code yX2_begins cX2_begins 5 (some .int), .methodLink RX2 34 yX2_has, .instanceMethod yX2_has, .selects RX2 yX2_has yX2_has, .code yX2_has cX2_has 3 (some .boolean), .fieldLink RX2 13 "BookIndexModel" "on" "[Z"] ++ wsX20)
def wsX2_common : List Cond := .code yX2_common cX2_common 5 (some .int) :: ([.fieldLink RX2 9 "BookIndexModel" "pages" "I", .methodLink RX2 34 yX2_has, .instanceMethod yX2_has, .selects RX2 yX2_has yX2_has, .initialized RX2, .code yX2_has cX2_has 3 (some .boolean), .fieldLink RX2 13 "BookIndexModel" "on" "[Z"] ++ wsX20)
def wsX2_near : List Cond := .code yX2_near cX2_near 6 (some .int) :: ([.fieldLink RX2 27 "BookIndexModel" "headings" "I", .methodLink RX2 42 yX2_common, .instanceMethod yX2_common, .selects RX2 yX2_common yX2_common, .initialized RX2, .code yX2_common cX2_common 5 (some .int), .fieldLink RX2 9 "BookIndexModel" "pages" "I", .methodLink RX2 34 yX2_has, .instanceMethod yX2_has, .selects RX2 yX2_has yX2_has, .code yX2_has cX2_has 3 (some .boolean), .fieldLink RX2 13 "BookIndexModel" "on" "[Z"] ++ wsX20)
def wsX2_onPage : List Cond := .code yX2_onPage cX2_onPage 4 (some .int) :: ([.fieldLink RX2 27 "BookIndexModel" "headings" "I", .methodLink RX2 34 yX2_has, .instanceMethod yX2_has, .selects RX2 yX2_has yX2_has, .initialized RX2, .code yX2_has cX2_has 3 (some .boolean), .fieldLink RX2 13 "BookIndexModel" "on" "[Z"] ++ wsX20)
def wsX2_bare : List Cond := .code yX2_bare cX2_bare 3 (some .int) :: ([.fieldLink RX2 9 "BookIndexModel" "pages" "I", .methodLink RX2 45 yX2_onPage, .instanceMethod yX2_onPage, .selects RX2 yX2_onPage yX2_onPage, .initialized RX2, .code yX2_onPage cX2_onPage 4 (some .int), .fieldLink RX2 27 "BookIndexModel" "headings" "I", .methodLink RX2 34 yX2_has, .instanceMethod yX2_has, .selects RX2 yX2_has yX2_has, .code yX2_has cX2_has 3 (some .boolean), .fieldLink RX2 13 "BookIndexModel" "on" "[Z"] ++ wsX20)
def wsX2_fullest : List Cond := .code yX2_fullest cX2_fullest 3 (some .int) :: ([.fieldLink RX2 9 "BookIndexModel" "pages" "I", .methodLink RX2 45 yX2_onPage, .instanceMethod yX2_onPage, .selects RX2 yX2_onPage yX2_onPage, .initialized RX2, .code yX2_onPage cX2_onPage 4 (some .int), .fieldLink RX2 27 "BookIndexModel" "headings" "I", .methodLink RX2 34 yX2_has, .instanceMethod yX2_has, .selects RX2 yX2_has yX2_has, .code yX2_has cX2_has 3 (some .boolean), .fieldLink RX2 13 "BookIndexModel" "on" "[Z"] ++ wsX20)
def wsX2_end : List Cond := .code yX2_end cX2_end 4 (some .int) :: ([.fieldLink RX2 27 "BookIndexModel" "headings" "I", .fieldLink RX2 17 "BookIndexModel" "see" "[I"] ++ wsX20)
def wsX2_vain : List Cond := .code yX2_vain cX2_vain 3 (some .int) :: ([.fieldLink RX2 27 "BookIndexModel" "headings" "I", .fieldLink RX2 17 "BookIndexModel" "see" "[I", .methodLink RX2 49 yX2_end, .instanceMethod yX2_end, .selects RX2 yX2_end yX2_end, .initialized RX2, .code yX2_end cX2_end 4 (some .int), .methodLink RX2 52 yX2_many, .instanceMethod yX2_many, .selects RX2 yX2_many yX2_many, .code yX2_many cX2_many 4 (some .int), .fieldLink RX2 9 "BookIndexModel" "pages" "I", .methodLink RX2 34 yX2_has, .instanceMethod yX2_has, .selects RX2 yX2_has yX2_has, .code yX2_has cX2_has 3 (some .boolean), .fieldLink RX2 13 "BookIndexModel" "on" "[Z"] ++ wsX20)
def wsX2_step : List Cond := .code yX2_step cX2_step 4 (some .int) :: ([.fieldLink RX2 27 "BookIndexModel" "headings" "I", .fieldLink RX2 21 "BookIndexModel" "also" "[I", .fieldLink RX2 17 "BookIndexModel" "see" "[I"] ++ wsX20)
def wsX2_all : List Cond := .code yX2_all cX2_all 3 (some .int) :: ([.methodLink RX2 55 yX2_step, .instanceMethod yX2_step, .selects RX2 yX2_step yX2_step, .initialized RX2, .code yX2_step cX2_step 4 (some .int), .fieldLink RX2 27 "BookIndexModel" "headings" "I", .fieldLink RX2 21 "BookIndexModel" "also" "[I", .fieldLink RX2 17 "BookIndexModel" "see" "[I"] ++ wsX20)
def wsX2_far : List Cond := .code yX2_far cX2_far 6 (some .int) :: ([.methodLink RX2 55 yX2_step, .instanceMethod yX2_step, .selects RX2 yX2_step yX2_step, .initialized RX2, .code yX2_step cX2_step 4 (some .int), .fieldLink RX2 27 "BookIndexModel" "headings" "I", .fieldLink RX2 21 "BookIndexModel" "also" "[I", .fieldLink RX2 17 "BookIndexModel" "see" "[I"] ++ wsX20)
def wsX2_rings : List Cond := .code yX2_rings cX2_rings 2 (some .boolean) :: ([.methodLink RX2 55 yX2_step, .instanceMethod yX2_step, .selects RX2 yX2_step yX2_step, .initialized RX2, .code yX2_step cX2_step 4 (some .int), .fieldLink RX2 27 "BookIndexModel" "headings" "I", .fieldLink RX2 21 "BookIndexModel" "also" "[I", .fieldLink RX2 17 "BookIndexModel" "see" "[I", .methodLink RX2 58 yX2_all, .instanceMethod yX2_all, .selects RX2 yX2_all yX2_all, .code yX2_all cX2_all 3 (some .int)] ++ wsX20)
def wsX2_alone : List Cond := .code yX2_alone cX2_alone 3 (some .int) :: ([.fieldLink RX2 27 "BookIndexModel" "headings" "I", .methodLink RX2 55 yX2_step, .instanceMethod yX2_step, .selects RX2 yX2_step yX2_step, .initialized RX2, .code yX2_step cX2_step 4 (some .int), .fieldLink RX2 21 "BookIndexModel" "also" "[I", .fieldLink RX2 17 "BookIndexModel" "see" "[I", .methodLink RX2 61 yJ6_bitCount_0f7a4, .static yJ6_bitCount_0f7a4, .initialized RJ6, .code yJ6_bitCount_0f7a4 cJ6_bitCount_0f7a4 1 (some .int), .constant RJ6 265 (1431655765), .constant RJ6 266 (858993459), .constant RJ6 267 (252645135)] ++ wsX20)
def wsX2_addHeading : List Cond := .code yX2_addHeading cX2_addHeading 1 (some .int) :: ([.fieldLink RX2 24 "BookIndexModel" "thrown" "I", .fieldLink RX2 27 "BookIndexModel" "headings" "I", .fieldLink RX2 17 "BookIndexModel" "see" "[I", .methodLink RX2 66 yX2_no, .instanceMethod yX2_no, .selects RX2 yX2_no yX2_no, .initialized RX2, .code yX2_no cX2_no 2 (some .int)] ++ wsX20)
def wsX2_put : List Cond := .code yX2_put cX2_put 6 none :: ([.methodLink RX2 69 yX2_let, .instanceMethod yX2_let, .selects RX2 yX2_let yX2_let, .initialized RX2, .code yX2_let cX2_let 4 none, .fieldLink RX2 13 "BookIndexModel" "on" "[Z"] ++ wsX20)
def wsX2_addPages_r1 : List Cond := [Cond.fieldLink RX2 24 "BookIndexModel" "thrown" "I", Cond.fieldLink RX2 17 "BookIndexModel" "see" "[I", Cond.methodLink RX2 73 yX2_isHeading, Cond.instanceMethod yX2_isHeading, Cond.selects RX2 yX2_isHeading yX2_isHeading, Cond.initialized RX2, Cond.code yX2_isHeading cX2_isHeading 2 (some .boolean), Cond.fieldLink RX2 27 "BookIndexModel" "headings" "I", Cond.methodLink RX2 30 yX2_isIn, Cond.static yX2_isIn, Cond.code yX2_isIn cX2_isIn 3 (some .boolean), Cond.methodLink RX2 66 yX2_no, Cond.instanceMethod yX2_no, Cond.selects RX2 yX2_no yX2_no, Cond.code yX2_no cX2_no 2 (some .int), Cond.methodLink RX2 77 yX2_arePages, Cond.instanceMethod yX2_arePages, Cond.selects RX2 yX2_arePages yX2_arePages, Cond.code yX2_arePages cX2_arePages 3 (some .boolean), Cond.fieldLink RX2 9 "BookIndexModel" "pages" "I", Cond.methodLink RX2 80 yX2_spansWith, Cond.instanceMethod yX2_spansWith, Cond.selects RX2 yX2_spansWith yX2_spansWith, Cond.code yX2_spansWith cX2_spansWith 9 (some .int)]
def wsX2_addPages_r2 : List Cond := [Cond.methodLink RX2 34 yX2_has, Cond.instanceMethod yX2_has, Cond.selects RX2 yX2_has yX2_has, Cond.code yX2_has cX2_has 3 (some .boolean), Cond.fieldLink RX2 13 "BookIndexModel" "on" "[Z", Cond.methodLink RX2 84 yX2_put, Cond.instanceMethod yX2_put, Cond.selects RX2 yX2_put yX2_put, Cond.code yX2_put cX2_put 6 none, Cond.methodLink RX2 69 yX2_let, Cond.instanceMethod yX2_let, Cond.selects RX2 yX2_let yX2_let, Cond.code yX2_let cX2_let 4 none, Cond.methodLink RX2 88 yX2_spans, Cond.instanceMethod yX2_spans, Cond.selects RX2 yX2_spans yX2_spans, Cond.code yX2_spans cX2_spans 7 (some .int)]
def wsX2_addPages : List Cond := .code yX2_addPages cX2_addPages 4 (some .int) :: ((wsX2_addPages_r1 ++ wsX2_addPages_r2) ++ wsX20)
def wsX2_takePages_r1 : List Cond := [Cond.fieldLink RX2 24 "BookIndexModel" "thrown" "I", Cond.methodLink RX2 73 yX2_isHeading, Cond.instanceMethod yX2_isHeading, Cond.selects RX2 yX2_isHeading yX2_isHeading, Cond.initialized RX2, Cond.code yX2_isHeading cX2_isHeading 2 (some .boolean), Cond.fieldLink RX2 27 "BookIndexModel" "headings" "I", Cond.methodLink RX2 30 yX2_isIn, Cond.static yX2_isIn, Cond.code yX2_isIn cX2_isIn 3 (some .boolean), Cond.methodLink RX2 66 yX2_no, Cond.instanceMethod yX2_no, Cond.selects RX2 yX2_no yX2_no, Cond.code yX2_no cX2_no 2 (some .int), Cond.methodLink RX2 77 yX2_arePages, Cond.instanceMethod yX2_arePages, Cond.selects RX2 yX2_arePages yX2_arePages, Cond.code yX2_arePages cX2_arePages 3 (some .boolean), Cond.fieldLink RX2 9 "BookIndexModel" "pages" "I", Cond.methodLink RX2 80 yX2_spansWith, Cond.instanceMethod yX2_spansWith, Cond.selects RX2 yX2_spansWith yX2_spansWith, Cond.code yX2_spansWith cX2_spansWith 9 (some .int), Cond.methodLink RX2 34 yX2_has]
def wsX2_takePages_r2 : List Cond := [Cond.instanceMethod yX2_has, Cond.selects RX2 yX2_has yX2_has, Cond.code yX2_has cX2_has 3 (some .boolean), Cond.fieldLink RX2 13 "BookIndexModel" "on" "[Z", Cond.methodLink RX2 52 yX2_many, Cond.instanceMethod yX2_many, Cond.selects RX2 yX2_many yX2_many, Cond.code yX2_many cX2_many 4 (some .int), Cond.methodLink RX2 84 yX2_put, Cond.instanceMethod yX2_put, Cond.selects RX2 yX2_put yX2_put, Cond.code yX2_put cX2_put 6 none, Cond.methodLink RX2 69 yX2_let, Cond.instanceMethod yX2_let, Cond.selects RX2 yX2_let yX2_let, Cond.code yX2_let cX2_let 4 none]
def wsX2_takePages : List Cond := .code yX2_takePages cX2_takePages 5 (some .int) :: ((wsX2_takePages_r1 ++ wsX2_takePages_r2) ++ wsX20)
def wsX2_setSee_r1 : List Cond := [Cond.fieldLink RX2 24 "BookIndexModel" "thrown" "I", Cond.fieldLink RX2 17 "BookIndexModel" "see" "[I", Cond.methodLink RX2 73 yX2_isHeading, Cond.instanceMethod yX2_isHeading, Cond.selects RX2 yX2_isHeading yX2_isHeading, Cond.initialized RX2, Cond.code yX2_isHeading cX2_isHeading 2 (some .boolean), Cond.fieldLink RX2 27 "BookIndexModel" "headings" "I", Cond.methodLink RX2 30 yX2_isIn, Cond.static yX2_isIn, Cond.code yX2_isIn cX2_isIn 3 (some .boolean), Cond.methodLink RX2 66 yX2_no, Cond.instanceMethod yX2_no, Cond.selects RX2 yX2_no yX2_no, Cond.code yX2_no cX2_no 2 (some .int), Cond.methodLink RX2 52 yX2_many, Cond.instanceMethod yX2_many, Cond.selects RX2 yX2_many yX2_many, Cond.code yX2_many cX2_many 4 (some .int), Cond.fieldLink RX2 9 "BookIndexModel" "pages" "I", Cond.methodLink RX2 34 yX2_has, Cond.instanceMethod yX2_has, Cond.selects RX2 yX2_has yX2_has, Cond.code yX2_has cX2_has 3 (some .boolean)]
def wsX2_setSee_r2 : List Cond := [Cond.fieldLink RX2 13 "BookIndexModel" "on" "[Z"]
def wsX2_setSee : List Cond := .code yX2_setSee cX2_setSee 4 (some .int) :: ((wsX2_setSee_r1 ++ wsX2_setSee_r2) ++ wsX20)
def wsX2_turnSeeAlso : List Cond := .code yX2_turnSeeAlso cX2_turnSeeAlso 4 (some .int) :: ([.fieldLink RX2 24 "BookIndexModel" "thrown" "I", .fieldLink RX2 21 "BookIndexModel" "also" "[I", .methodLink RX2 73 yX2_isHeading, .instanceMethod yX2_isHeading, .selects RX2 yX2_isHeading yX2_isHeading, .initialized RX2, .code yX2_isHeading cX2_isHeading 2 (some .boolean), .fieldLink RX2 27 "BookIndexModel" "headings" "I", .methodLink RX2 30 yX2_isIn, .static yX2_isIn, .code yX2_isIn cX2_isIn 3 (some .boolean), .methodLink RX2 66 yX2_no, .instanceMethod yX2_no, .selects RX2 yX2_no yX2_no, .code yX2_no cX2_no 2 (some .int), .methodLink RX2 61 yJ6_bitCount_0f7a4, .static yJ6_bitCount_0f7a4, .initialized RJ6, .code yJ6_bitCount_0f7a4 cJ6_bitCount_0f7a4 1 (some .int), .constant RJ6 265 (1431655765), .constant RJ6 266 (858993459), .constant RJ6 267 (252645135)] ++ wsX20)
def wsX2_putIn : List Cond := .code yX2_putIn cX2_putIn 6 (some .int) :: ([.fieldLink RX2 24 "BookIndexModel" "thrown" "I", .fieldLink RX2 9 "BookIndexModel" "pages" "I", .fieldLink RX2 27 "BookIndexModel" "headings" "I", .methodLink RX2 30 yX2_isIn, .static yX2_isIn, .initialized RX2, .code yX2_isIn cX2_isIn 3 (some .boolean), .methodLink RX2 66 yX2_no, .instanceMethod yX2_no, .selects RX2 yX2_no yX2_no, .code yX2_no cX2_no 2 (some .int), .methodLink RX2 34 yX2_has, .instanceMethod yX2_has, .selects RX2 yX2_has yX2_has, .code yX2_has cX2_has 3 (some .boolean), .fieldLink RX2 13 "BookIndexModel" "on" "[Z", .methodLink RX2 69 yX2_let, .instanceMethod yX2_let, .selects RX2 yX2_let yX2_let, .code yX2_let cX2_let 4 none, .methodLink RX2 84 yX2_put, .instanceMethod yX2_put, .selects RX2 yX2_put yX2_put, .code yX2_put cX2_put 6 none] ++ wsX20)
def wsX2_takeOut_r1 : List Cond := [Cond.fieldLink RX2 24 "BookIndexModel" "thrown" "I", Cond.fieldLink RX2 9 "BookIndexModel" "pages" "I", Cond.fieldLink RX2 27 "BookIndexModel" "headings" "I", Cond.methodLink RX2 92 yX2_isPage, Cond.instanceMethod yX2_isPage, Cond.selects RX2 yX2_isPage yX2_isPage, Cond.initialized RX2, Cond.code yX2_isPage cX2_isPage 2 (some .boolean), Cond.methodLink RX2 30 yX2_isIn, Cond.static yX2_isIn, Cond.code yX2_isIn cX2_isIn 3 (some .boolean), Cond.methodLink RX2 66 yX2_no, Cond.instanceMethod yX2_no, Cond.selects RX2 yX2_no yX2_no, Cond.code yX2_no cX2_no 2 (some .int), Cond.methodLink RX2 45 yX2_onPage, Cond.instanceMethod yX2_onPage, Cond.selects RX2 yX2_onPage yX2_onPage, Cond.code yX2_onPage cX2_onPage 4 (some .int), Cond.methodLink RX2 34 yX2_has, Cond.instanceMethod yX2_has, Cond.selects RX2 yX2_has yX2_has, Cond.code yX2_has cX2_has 3 (some .boolean), Cond.fieldLink RX2 13 "BookIndexModel" "on" "[Z"]
def wsX2_takeOut_r2 : List Cond := [Cond.methodLink RX2 69 yX2_let, Cond.instanceMethod yX2_let, Cond.selects RX2 yX2_let yX2_let, Cond.code yX2_let cX2_let 4 none]
def wsX2_takeOut : List Cond := .code yX2_takeOut cX2_takeOut 5 (some .int) :: ((wsX2_takeOut_r1 ++ wsX2_takeOut_r2) ++ wsX20)
def wsX2_bookPages : List Cond := .code yX2_bookPages cX2_bookPages 1 (some .int) :: ([.fieldLink RX2 9 "BookIndexModel" "pages" "I", .methodLink RX2 95 yX2_ok, .instanceMethod yX2_ok, .selects RX2 yX2_ok yX2_ok, .initialized RX2, .code yX2_ok cX2_ok 2 (some .int), .fieldLink RX2 24 "BookIndexModel" "thrown" "I"] ++ wsX20)
def wsX2_headings : List Cond := .code yX2_headings cX2_headings 1 (some .int) :: ([.fieldLink RX2 27 "BookIndexModel" "headings" "I", .methodLink RX2 95 yX2_ok, .instanceMethod yX2_ok, .selects RX2 yX2_ok yX2_ok, .initialized RX2, .code yX2_ok cX2_ok 2 (some .int), .fieldLink RX2 24 "BookIndexModel" "thrown" "I"] ++ wsX20)
def wsX2_spansOf : List Cond := .code yX2_spansOf cX2_spansOf 2 (some .int) :: ([.fieldLink RX2 24 "BookIndexModel" "thrown" "I", .methodLink RX2 73 yX2_isHeading, .instanceMethod yX2_isHeading, .selects RX2 yX2_isHeading yX2_isHeading, .initialized RX2, .code yX2_isHeading cX2_isHeading 2 (some .boolean), .fieldLink RX2 27 "BookIndexModel" "headings" "I", .methodLink RX2 30 yX2_isIn, .static yX2_isIn, .code yX2_isIn cX2_isIn 3 (some .boolean), .methodLink RX2 88 yX2_spans, .instanceMethod yX2_spans, .selects RX2 yX2_spans yX2_spans, .code yX2_spans cX2_spans 7 (some .int), .fieldLink RX2 9 "BookIndexModel" "pages" "I", .methodLink RX2 34 yX2_has, .instanceMethod yX2_has, .selects RX2 yX2_has yX2_has, .code yX2_has cX2_has 3 (some .boolean), .fieldLink RX2 13 "BookIndexModel" "on" "[Z", .methodLink RX2 66 yX2_no, .instanceMethod yX2_no, .selects RX2 yX2_no yX2_no, .code yX2_no cX2_no 2 (some .int)] ++ wsX20)
def wsX2_isSpan : List Cond := .code yX2_isSpan cX2_isSpan 3 (some .boolean) :: ([.methodLink RX2 73 yX2_isHeading, .instanceMethod yX2_isHeading, .selects RX2 yX2_isHeading yX2_isHeading, .initialized RX2, .code yX2_isHeading cX2_isHeading 2 (some .boolean), .fieldLink RX2 27 "BookIndexModel" "headings" "I", .methodLink RX2 30 yX2_isIn, .static yX2_isIn, .code yX2_isIn cX2_isIn 3 (some .boolean), .methodLink RX2 88 yX2_spans, .instanceMethod yX2_spans, .selects RX2 yX2_spans yX2_spans, .code yX2_spans cX2_spans 7 (some .int), .fieldLink RX2 9 "BookIndexModel" "pages" "I", .methodLink RX2 34 yX2_has, .instanceMethod yX2_has, .selects RX2 yX2_has yX2_has, .code yX2_has cX2_has 3 (some .boolean), .fieldLink RX2 13 "BookIndexModel" "on" "[Z"] ++ wsX20)
def wsX2_startOf_r1 : List Cond := [Cond.fieldLink RX2 24 "BookIndexModel" "thrown" "I", Cond.methodLink RX2 98 yX2_isSpan, Cond.instanceMethod yX2_isSpan, Cond.selects RX2 yX2_isSpan yX2_isSpan, Cond.initialized RX2, Cond.code yX2_isSpan cX2_isSpan 3 (some .boolean), Cond.methodLink RX2 73 yX2_isHeading, Cond.instanceMethod yX2_isHeading, Cond.selects RX2 yX2_isHeading yX2_isHeading, Cond.code yX2_isHeading cX2_isHeading 2 (some .boolean), Cond.fieldLink RX2 27 "BookIndexModel" "headings" "I", Cond.methodLink RX2 30 yX2_isIn, Cond.static yX2_isIn, Cond.code yX2_isIn cX2_isIn 3 (some .boolean), Cond.methodLink RX2 88 yX2_spans, Cond.instanceMethod yX2_spans, Cond.selects RX2 yX2_spans yX2_spans, Cond.code yX2_spans cX2_spans 7 (some .int), Cond.fieldLink RX2 9 "BookIndexModel" "pages" "I", Cond.methodLink RX2 34 yX2_has, Cond.instanceMethod yX2_has, Cond.selects RX2 yX2_has yX2_has, Cond.code yX2_has cX2_has 3 (some .boolean), Cond.fieldLink RX2 13 "BookIndexModel" "on" "[Z"]
def wsX2_startOf_r2 : List Cond := [Cond.methodLink RX2 38 yX2_begins, Cond.instanceMethod yX2_begins, Cond.selects RX2 yX2_begins yX2_begins, Cond.code yX2_begins cX2_begins 5 (some .int), Cond.methodLink RX2 66 yX2_no, Cond.instanceMethod yX2_no, Cond.selects RX2 yX2_no yX2_no, Cond.code yX2_no cX2_no 2 (some .int)]
def wsX2_startOf : List Cond := .code yX2_startOf cX2_startOf 3 (some .int) :: ((wsX2_startOf_r1 ++ wsX2_startOf_r2) ++ wsX20)
def wsX2_endOf_r1 : List Cond := [Cond.fieldLink RX2 24 "BookIndexModel" "thrown" "I", Cond.methodLink RX2 98 yX2_isSpan, Cond.instanceMethod yX2_isSpan, Cond.selects RX2 yX2_isSpan yX2_isSpan, Cond.initialized RX2, Cond.code yX2_isSpan cX2_isSpan 3 (some .boolean), Cond.methodLink RX2 73 yX2_isHeading, Cond.instanceMethod yX2_isHeading, Cond.selects RX2 yX2_isHeading yX2_isHeading, Cond.code yX2_isHeading cX2_isHeading 2 (some .boolean), Cond.fieldLink RX2 27 "BookIndexModel" "headings" "I", Cond.methodLink RX2 30 yX2_isIn, Cond.static yX2_isIn, Cond.code yX2_isIn cX2_isIn 3 (some .boolean), Cond.methodLink RX2 88 yX2_spans, Cond.instanceMethod yX2_spans, Cond.selects RX2 yX2_spans yX2_spans, Cond.code yX2_spans cX2_spans 7 (some .int), Cond.fieldLink RX2 9 "BookIndexModel" "pages" "I", Cond.methodLink RX2 34 yX2_has, Cond.instanceMethod yX2_has, Cond.selects RX2 yX2_has yX2_has, Cond.code yX2_has cX2_has 3 (some .boolean), Cond.fieldLink RX2 13 "BookIndexModel" "on" "[Z"]
def wsX2_endOf_r2 : List Cond := [Cond.methodLink RX2 101 yX2_ends, Cond.instanceMethod yX2_ends, Cond.selects RX2 yX2_ends yX2_ends, Cond.code yX2_ends cX2_ends 4 (some .int), Cond.methodLink RX2 38 yX2_begins, Cond.instanceMethod yX2_begins, Cond.selects RX2 yX2_begins yX2_begins, Cond.code yX2_begins cX2_begins 5 (some .int), Cond.methodLink RX2 66 yX2_no, Cond.instanceMethod yX2_no, Cond.selects RX2 yX2_no yX2_no, Cond.code yX2_no cX2_no 2 (some .int)]
def wsX2_endOf : List Cond := .code yX2_endOf cX2_endOf 3 (some .int) :: ((wsX2_endOf_r1 ++ wsX2_endOf_r2) ++ wsX20)
def wsX2_pagesOf : List Cond := .code yX2_pagesOf cX2_pagesOf 2 (some .int) :: ([.fieldLink RX2 24 "BookIndexModel" "thrown" "I", .methodLink RX2 73 yX2_isHeading, .instanceMethod yX2_isHeading, .selects RX2 yX2_isHeading yX2_isHeading, .initialized RX2, .code yX2_isHeading cX2_isHeading 2 (some .boolean), .fieldLink RX2 27 "BookIndexModel" "headings" "I", .methodLink RX2 30 yX2_isIn, .static yX2_isIn, .code yX2_isIn cX2_isIn 3 (some .boolean), .methodLink RX2 52 yX2_many, .instanceMethod yX2_many, .selects RX2 yX2_many yX2_many, .code yX2_many cX2_many 4 (some .int), .fieldLink RX2 9 "BookIndexModel" "pages" "I", .methodLink RX2 34 yX2_has, .instanceMethod yX2_has, .selects RX2 yX2_has yX2_has, .code yX2_has cX2_has 3 (some .boolean), .fieldLink RX2 13 "BookIndexModel" "on" "[Z", .methodLink RX2 66 yX2_no, .instanceMethod yX2_no, .selects RX2 yX2_no yX2_no, .code yX2_no cX2_no 2 (some .int)] ++ wsX20)
def wsX2_seeOf : List Cond := .code yX2_seeOf cX2_seeOf 2 (some .int) :: ([.fieldLink RX2 24 "BookIndexModel" "thrown" "I", .fieldLink RX2 17 "BookIndexModel" "see" "[I", .methodLink RX2 73 yX2_isHeading, .instanceMethod yX2_isHeading, .selects RX2 yX2_isHeading yX2_isHeading, .initialized RX2, .code yX2_isHeading cX2_isHeading 2 (some .boolean), .fieldLink RX2 27 "BookIndexModel" "headings" "I", .methodLink RX2 30 yX2_isIn, .static yX2_isIn, .code yX2_isIn cX2_isIn 3 (some .boolean), .methodLink RX2 66 yX2_no, .instanceMethod yX2_no, .selects RX2 yX2_no yX2_no, .code yX2_no cX2_no 2 (some .int)] ++ wsX20)
def wsX2_seeAlsosOf : List Cond := .code yX2_seeAlsosOf cX2_seeAlsosOf 2 (some .int) :: ([.fieldLink RX2 24 "BookIndexModel" "thrown" "I", .fieldLink RX2 21 "BookIndexModel" "also" "[I", .methodLink RX2 73 yX2_isHeading, .instanceMethod yX2_isHeading, .selects RX2 yX2_isHeading yX2_isHeading, .initialized RX2, .code yX2_isHeading cX2_isHeading 2 (some .boolean), .fieldLink RX2 27 "BookIndexModel" "headings" "I", .methodLink RX2 30 yX2_isIn, .static yX2_isIn, .code yX2_isIn cX2_isIn 3 (some .boolean), .methodLink RX2 61 yJ6_bitCount_0f7a4, .static yJ6_bitCount_0f7a4, .initialized RJ6, .code yJ6_bitCount_0f7a4 cJ6_bitCount_0f7a4 1 (some .int), .constant RJ6 265 (1431655765), .constant RJ6 266 (858993459), .constant RJ6 267 (252645135), .methodLink RX2 66 yX2_no, .instanceMethod yX2_no, .selects RX2 yX2_no yX2_no, .code yX2_no cX2_no 2 (some .int)] ++ wsX20)
def wsX2_isOn : List Cond := .code yX2_isOn cX2_isOn 3 (some .boolean) :: ([.fieldLink RX2 24 "BookIndexModel" "thrown" "I", .methodLink RX2 73 yX2_isHeading, .instanceMethod yX2_isHeading, .selects RX2 yX2_isHeading yX2_isHeading, .initialized RX2, .code yX2_isHeading cX2_isHeading 2 (some .boolean), .fieldLink RX2 27 "BookIndexModel" "headings" "I", .methodLink RX2 30 yX2_isIn, .static yX2_isIn, .code yX2_isIn cX2_isIn 3 (some .boolean), .methodLink RX2 104 yX2_isNot, .instanceMethod yX2_isNot, .selects RX2 yX2_isNot yX2_isNot, .code yX2_isNot cX2_isNot 2 (some .boolean), .methodLink RX2 92 yX2_isPage, .instanceMethod yX2_isPage, .selects RX2 yX2_isPage yX2_isPage, .code yX2_isPage cX2_isPage 2 (some .boolean), .fieldLink RX2 9 "BookIndexModel" "pages" "I", .methodLink RX2 34 yX2_has, .instanceMethod yX2_has, .selects RX2 yX2_has yX2_has, .code yX2_has cX2_has 3 (some .boolean), .fieldLink RX2 13 "BookIndexModel" "on" "[Z"] ++ wsX20)
def wsX2_headingsOn : List Cond := .code yX2_headingsOn cX2_headingsOn 2 (some .int) :: ([.fieldLink RX2 24 "BookIndexModel" "thrown" "I", .methodLink RX2 92 yX2_isPage, .instanceMethod yX2_isPage, .selects RX2 yX2_isPage yX2_isPage, .initialized RX2, .code yX2_isPage cX2_isPage 2 (some .boolean), .fieldLink RX2 9 "BookIndexModel" "pages" "I", .methodLink RX2 30 yX2_isIn, .static yX2_isIn, .code yX2_isIn cX2_isIn 3 (some .boolean), .methodLink RX2 45 yX2_onPage, .instanceMethod yX2_onPage, .selects RX2 yX2_onPage yX2_onPage, .code yX2_onPage cX2_onPage 4 (some .int), .fieldLink RX2 27 "BookIndexModel" "headings" "I", .methodLink RX2 34 yX2_has, .instanceMethod yX2_has, .selects RX2 yX2_has yX2_has, .code yX2_has cX2_has 3 (some .boolean), .fieldLink RX2 13 "BookIndexModel" "on" "[Z", .methodLink RX2 66 yX2_no, .instanceMethod yX2_no, .selects RX2 yX2_no yX2_no, .code yX2_no cX2_no 2 (some .int)] ++ wsX20)
def wsX2_barePages : List Cond := .code yX2_barePages cX2_barePages 1 (some .int) :: ([.methodLink RX2 107 yX2_bare, .instanceMethod yX2_bare, .selects RX2 yX2_bare yX2_bare, .initialized RX2, .code yX2_bare cX2_bare 3 (some .int), .fieldLink RX2 9 "BookIndexModel" "pages" "I", .methodLink RX2 45 yX2_onPage, .instanceMethod yX2_onPage, .selects RX2 yX2_onPage yX2_onPage, .code yX2_onPage cX2_onPage 4 (some .int), .fieldLink RX2 27 "BookIndexModel" "headings" "I", .methodLink RX2 34 yX2_has, .instanceMethod yX2_has, .selects RX2 yX2_has yX2_has, .code yX2_has cX2_has 3 (some .boolean), .fieldLink RX2 13 "BookIndexModel" "on" "[Z", .methodLink RX2 95 yX2_ok, .instanceMethod yX2_ok, .selects RX2 yX2_ok yX2_ok, .code yX2_ok cX2_ok 2 (some .int), .fieldLink RX2 24 "BookIndexModel" "thrown" "I"] ++ wsX20)
def wsX2_fullestPage : List Cond := .code yX2_fullestPage cX2_fullestPage 1 (some .int) :: ([.methodLink RX2 111 yX2_fullest, .instanceMethod yX2_fullest, .selects RX2 yX2_fullest yX2_fullest, .initialized RX2, .code yX2_fullest cX2_fullest 3 (some .int), .fieldLink RX2 9 "BookIndexModel" "pages" "I", .methodLink RX2 45 yX2_onPage, .instanceMethod yX2_onPage, .selects RX2 yX2_onPage yX2_onPage, .code yX2_onPage cX2_onPage 4 (some .int), .fieldLink RX2 27 "BookIndexModel" "headings" "I", .methodLink RX2 34 yX2_has, .instanceMethod yX2_has, .selects RX2 yX2_has yX2_has, .code yX2_has cX2_has 3 (some .boolean), .fieldLink RX2 13 "BookIndexModel" "on" "[Z", .methodLink RX2 95 yX2_ok, .instanceMethod yX2_ok, .selects RX2 yX2_ok yX2_ok, .code yX2_ok cX2_ok 2 (some .int), .fieldLink RX2 24 "BookIndexModel" "thrown" "I"] ++ wsX20)
def wsX2_leadsTo : List Cond := .code yX2_leadsTo cX2_leadsTo 2 (some .int) :: ([.fieldLink RX2 24 "BookIndexModel" "thrown" "I", .methodLink RX2 73 yX2_isHeading, .instanceMethod yX2_isHeading, .selects RX2 yX2_isHeading yX2_isHeading, .initialized RX2, .code yX2_isHeading cX2_isHeading 2 (some .boolean), .fieldLink RX2 27 "BookIndexModel" "headings" "I", .methodLink RX2 30 yX2_isIn, .static yX2_isIn, .code yX2_isIn cX2_isIn 3 (some .boolean), .methodLink RX2 49 yX2_end, .instanceMethod yX2_end, .selects RX2 yX2_end yX2_end, .code yX2_end cX2_end 4 (some .int), .fieldLink RX2 17 "BookIndexModel" "see" "[I", .methodLink RX2 66 yX2_no, .instanceMethod yX2_no, .selects RX2 yX2_no yX2_no, .code yX2_no cX2_no 2 (some .int)] ++ wsX20)
def wsX2_vainSees_r1 : List Cond := [Cond.methodLink RX2 114 yX2_vain, Cond.instanceMethod yX2_vain, Cond.selects RX2 yX2_vain yX2_vain, Cond.initialized RX2, Cond.code yX2_vain cX2_vain 3 (some .int), Cond.fieldLink RX2 27 "BookIndexModel" "headings" "I", Cond.fieldLink RX2 17 "BookIndexModel" "see" "[I", Cond.methodLink RX2 49 yX2_end, Cond.instanceMethod yX2_end, Cond.selects RX2 yX2_end yX2_end, Cond.code yX2_end cX2_end 4 (some .int), Cond.methodLink RX2 52 yX2_many, Cond.instanceMethod yX2_many, Cond.selects RX2 yX2_many yX2_many, Cond.code yX2_many cX2_many 4 (some .int), Cond.fieldLink RX2 9 "BookIndexModel" "pages" "I", Cond.methodLink RX2 34 yX2_has, Cond.instanceMethod yX2_has, Cond.selects RX2 yX2_has yX2_has, Cond.code yX2_has cX2_has 3 (some .boolean), Cond.fieldLink RX2 13 "BookIndexModel" "on" "[Z", Cond.methodLink RX2 95 yX2_ok, Cond.instanceMethod yX2_ok, Cond.selects RX2 yX2_ok yX2_ok]
def wsX2_vainSees_r2 : List Cond := [Cond.code yX2_ok cX2_ok 2 (some .int), Cond.fieldLink RX2 24 "BookIndexModel" "thrown" "I"]
def wsX2_vainSees : List Cond := .code yX2_vainSees cX2_vainSees 1 (some .int) :: ((wsX2_vainSees_r1 ++ wsX2_vainSees_r2) ++ wsX20)
def wsX2_steps : List Cond := .code yX2_steps cX2_steps 3 (some .int) :: ([.fieldLink RX2 24 "BookIndexModel" "thrown" "I", .methodLink RX2 73 yX2_isHeading, .instanceMethod yX2_isHeading, .selects RX2 yX2_isHeading yX2_isHeading, .initialized RX2, .code yX2_isHeading cX2_isHeading 2 (some .boolean), .fieldLink RX2 27 "BookIndexModel" "headings" "I", .methodLink RX2 30 yX2_isIn, .static yX2_isIn, .code yX2_isIn cX2_isIn 3 (some .boolean), .methodLink RX2 117 yX2_far, .instanceMethod yX2_far, .selects RX2 yX2_far yX2_far, .code yX2_far cX2_far 6 (some .int), .methodLink RX2 55 yX2_step, .instanceMethod yX2_step, .selects RX2 yX2_step yX2_step, .code yX2_step cX2_step 4 (some .int), .fieldLink RX2 21 "BookIndexModel" "also" "[I", .fieldLink RX2 17 "BookIndexModel" "see" "[I", .methodLink RX2 66 yX2_no, .instanceMethod yX2_no, .selects RX2 yX2_no yX2_no, .code yX2_no cX2_no 2 (some .int)] ++ wsX20)
def wsX2_reachOf_r1 : List Cond := [Cond.fieldLink RX2 24 "BookIndexModel" "thrown" "I", Cond.methodLink RX2 73 yX2_isHeading, Cond.instanceMethod yX2_isHeading, Cond.selects RX2 yX2_isHeading yX2_isHeading, Cond.initialized RX2, Cond.code yX2_isHeading cX2_isHeading 2 (some .boolean), Cond.fieldLink RX2 27 "BookIndexModel" "headings" "I", Cond.methodLink RX2 30 yX2_isIn, Cond.static yX2_isIn, Cond.code yX2_isIn cX2_isIn 3 (some .boolean), Cond.methodLink RX2 58 yX2_all, Cond.instanceMethod yX2_all, Cond.selects RX2 yX2_all yX2_all, Cond.code yX2_all cX2_all 3 (some .int), Cond.methodLink RX2 55 yX2_step, Cond.instanceMethod yX2_step, Cond.selects RX2 yX2_step yX2_step, Cond.code yX2_step cX2_step 4 (some .int), Cond.fieldLink RX2 21 "BookIndexModel" "also" "[I", Cond.fieldLink RX2 17 "BookIndexModel" "see" "[I", Cond.methodLink RX2 61 yJ6_bitCount_0f7a4, Cond.static yJ6_bitCount_0f7a4, Cond.initialized RJ6, Cond.code yJ6_bitCount_0f7a4 cJ6_bitCount_0f7a4 1 (some .int)]
def wsX2_reachOf_r2 : List Cond := [Cond.constant RJ6 265 (1431655765), Cond.constant RJ6 266 (858993459), Cond.constant RJ6 267 (252645135), Cond.methodLink RX2 66 yX2_no, Cond.instanceMethod yX2_no, Cond.selects RX2 yX2_no yX2_no, Cond.code yX2_no cX2_no 2 (some .int)]
def wsX2_reachOf : List Cond := .code yX2_reachOf cX2_reachOf 2 (some .int) :: ((wsX2_reachOf_r1 ++ wsX2_reachOf_r2) ++ wsX20)
def wsX2_isInRing_r1 : List Cond := [Cond.fieldLink RX2 24 "BookIndexModel" "thrown" "I", Cond.methodLink RX2 73 yX2_isHeading, Cond.instanceMethod yX2_isHeading, Cond.selects RX2 yX2_isHeading yX2_isHeading, Cond.initialized RX2, Cond.code yX2_isHeading cX2_isHeading 2 (some .boolean), Cond.fieldLink RX2 27 "BookIndexModel" "headings" "I", Cond.methodLink RX2 30 yX2_isIn, Cond.static yX2_isIn, Cond.code yX2_isIn cX2_isIn 3 (some .boolean), Cond.methodLink RX2 120 yX2_rings, Cond.instanceMethod yX2_rings, Cond.selects RX2 yX2_rings yX2_rings, Cond.code yX2_rings cX2_rings 2 (some .boolean), Cond.methodLink RX2 55 yX2_step, Cond.instanceMethod yX2_step, Cond.selects RX2 yX2_step yX2_step, Cond.code yX2_step cX2_step 4 (some .int), Cond.fieldLink RX2 21 "BookIndexModel" "also" "[I", Cond.fieldLink RX2 17 "BookIndexModel" "see" "[I", Cond.methodLink RX2 58 yX2_all, Cond.instanceMethod yX2_all, Cond.selects RX2 yX2_all yX2_all, Cond.code yX2_all cX2_all 3 (some .int)]
def wsX2_isInRing_r2 : List Cond := [Cond.methodLink RX2 104 yX2_isNot, Cond.instanceMethod yX2_isNot, Cond.selects RX2 yX2_isNot yX2_isNot, Cond.code yX2_isNot cX2_isNot 2 (some .boolean)]
def wsX2_isInRing : List Cond := .code yX2_isInRing cX2_isInRing 2 (some .boolean) :: ((wsX2_isInRing_r1 ++ wsX2_isInRing_r2) ++ wsX20)
def wsX2_unled : List Cond := .code yX2_unled cX2_unled 1 (some .int) :: ([.methodLink RX2 123 yX2_alone, .instanceMethod yX2_alone, .selects RX2 yX2_alone yX2_alone, .initialized RX2, .code yX2_alone cX2_alone 3 (some .int), .fieldLink RX2 27 "BookIndexModel" "headings" "I", .methodLink RX2 55 yX2_step, .instanceMethod yX2_step, .selects RX2 yX2_step yX2_step, .code yX2_step cX2_step 4 (some .int), .fieldLink RX2 21 "BookIndexModel" "also" "[I", .fieldLink RX2 17 "BookIndexModel" "see" "[I", .methodLink RX2 61 yJ6_bitCount_0f7a4, .static yJ6_bitCount_0f7a4, .initialized RJ6, .code yJ6_bitCount_0f7a4 cJ6_bitCount_0f7a4 1 (some .int), .constant RJ6 265 (1431655765), .constant RJ6 266 (858993459), .constant RJ6 267 (252645135), .methodLink RX2 95 yX2_ok, .instanceMethod yX2_ok, .selects RX2 yX2_ok yX2_ok, .code yX2_ok cX2_ok 2 (some .int), .fieldLink RX2 24 "BookIndexModel" "thrown" "I"] ++ wsX20)
def wsX2_spansWithGap : List Cond := .code yX2_spansWithGap cX2_spansWithGap 3 (some .int) :: ([.fieldLink RX2 24 "BookIndexModel" "thrown" "I", .methodLink RX2 73 yX2_isHeading, .instanceMethod yX2_isHeading, .selects RX2 yX2_isHeading yX2_isHeading, .initialized RX2, .code yX2_isHeading cX2_isHeading 2 (some .boolean), .fieldLink RX2 27 "BookIndexModel" "headings" "I", .methodLink RX2 30 yX2_isIn, .static yX2_isIn, .code yX2_isIn cX2_isIn 3 (some .boolean), .methodLink RX2 66 yX2_no, .instanceMethod yX2_no, .selects RX2 yX2_no yX2_no, .code yX2_no cX2_no 2 (some .int), .methodLink RX2 88 yX2_spans, .instanceMethod yX2_spans, .selects RX2 yX2_spans yX2_spans, .code yX2_spans cX2_spans 7 (some .int), .fieldLink RX2 9 "BookIndexModel" "pages" "I", .methodLink RX2 34 yX2_has, .instanceMethod yX2_has, .selects RX2 yX2_has yX2_has, .code yX2_has cX2_has 3 (some .boolean), .fieldLink RX2 13 "BookIndexModel" "on" "[Z"] ++ wsX20)
def wsX2_commonPages : List Cond := .code yX2_commonPages cX2_commonPages 3 (some .int) :: ([.fieldLink RX2 24 "BookIndexModel" "thrown" "I", .methodLink RX2 73 yX2_isHeading, .instanceMethod yX2_isHeading, .selects RX2 yX2_isHeading yX2_isHeading, .initialized RX2, .code yX2_isHeading cX2_isHeading 2 (some .boolean), .fieldLink RX2 27 "BookIndexModel" "headings" "I", .methodLink RX2 30 yX2_isIn, .static yX2_isIn, .code yX2_isIn cX2_isIn 3 (some .boolean), .methodLink RX2 42 yX2_common, .instanceMethod yX2_common, .selects RX2 yX2_common yX2_common, .code yX2_common cX2_common 5 (some .int), .fieldLink RX2 9 "BookIndexModel" "pages" "I", .methodLink RX2 34 yX2_has, .instanceMethod yX2_has, .selects RX2 yX2_has yX2_has, .code yX2_has cX2_has 3 (some .boolean), .fieldLink RX2 13 "BookIndexModel" "on" "[Z", .methodLink RX2 66 yX2_no, .instanceMethod yX2_no, .selects RX2 yX2_no yX2_no, .code yX2_no cX2_no 2 (some .int)] ++ wsX20)
def wsX2_nearest_r1 : List Cond := [Cond.fieldLink RX2 24 "BookIndexModel" "thrown" "I", Cond.methodLink RX2 73 yX2_isHeading, Cond.instanceMethod yX2_isHeading, Cond.selects RX2 yX2_isHeading yX2_isHeading, Cond.initialized RX2, Cond.code yX2_isHeading cX2_isHeading 2 (some .boolean), Cond.fieldLink RX2 27 "BookIndexModel" "headings" "I", Cond.methodLink RX2 30 yX2_isIn, Cond.static yX2_isIn, Cond.code yX2_isIn cX2_isIn 3 (some .boolean), Cond.methodLink RX2 126 yX2_near, Cond.instanceMethod yX2_near, Cond.selects RX2 yX2_near yX2_near, Cond.code yX2_near cX2_near 6 (some .int), Cond.methodLink RX2 42 yX2_common, Cond.instanceMethod yX2_common, Cond.selects RX2 yX2_common yX2_common, Cond.code yX2_common cX2_common 5 (some .int), Cond.fieldLink RX2 9 "BookIndexModel" "pages" "I", Cond.methodLink RX2 34 yX2_has, Cond.instanceMethod yX2_has, Cond.selects RX2 yX2_has yX2_has, Cond.code yX2_has cX2_has 3 (some .boolean), Cond.fieldLink RX2 13 "BookIndexModel" "on" "[Z"]
def wsX2_nearest_r2 : List Cond := [Cond.methodLink RX2 66 yX2_no, Cond.instanceMethod yX2_no, Cond.selects RX2 yX2_no yX2_no, Cond.code yX2_no cX2_no 2 (some .int)]
def wsX2_nearest : List Cond := .code yX2_nearest cX2_nearest 2 (some .int) :: ((wsX2_nearest_r1 ++ wsX2_nearest_r2) ++ wsX20)
def wsX2_spansTogether : List Cond := .code yX2_spansTogether cX2_spansTogether 3 (some .int) :: ([.fieldLink RX2 24 "BookIndexModel" "thrown" "I", .methodLink RX2 73 yX2_isHeading, .instanceMethod yX2_isHeading, .selects RX2 yX2_isHeading yX2_isHeading, .initialized RX2, .code yX2_isHeading cX2_isHeading 2 (some .boolean), .fieldLink RX2 27 "BookIndexModel" "headings" "I", .methodLink RX2 30 yX2_isIn, .static yX2_isIn, .code yX2_isIn cX2_isIn 3 (some .boolean), .methodLink RX2 88 yX2_spans, .instanceMethod yX2_spans, .selects RX2 yX2_spans yX2_spans, .code yX2_spans cX2_spans 7 (some .int), .fieldLink RX2 9 "BookIndexModel" "pages" "I", .methodLink RX2 34 yX2_has, .instanceMethod yX2_has, .selects RX2 yX2_has yX2_has, .code yX2_has cX2_has 3 (some .boolean), .fieldLink RX2 13 "BookIndexModel" "on" "[Z", .methodLink RX2 66 yX2_no, .instanceMethod yX2_no, .selects RX2 yX2_no yX2_no, .code yX2_no cX2_no 2 (some .int)] ++ wsX20)
def wsX2_meanPages : List Cond := .code yX2_meanPages cX2_meanPages 4 (some .double) :: ([.fieldLink RX2 24 "BookIndexModel" "thrown" "I", .fieldLink RX2 27 "BookIndexModel" "headings" "I", .methodLink RX2 52 yX2_many, .instanceMethod yX2_many, .selects RX2 yX2_many yX2_many, .initialized RX2, .code yX2_many cX2_many 4 (some .int), .fieldLink RX2 9 "BookIndexModel" "pages" "I", .methodLink RX2 34 yX2_has, .instanceMethod yX2_has, .selects RX2 yX2_has yX2_has, .code yX2_has cX2_has 3 (some .boolean), .fieldLink RX2 13 "BookIndexModel" "on" "[Z"] ++ wsX20)
def wsX2_digest_r1 : List Cond := [Cond.fieldLink RX2 24 "BookIndexModel" "thrown" "I", Cond.arrayClass .int, Cond.fieldLink RX2 9 "BookIndexModel" "pages" "I", Cond.fieldLink RX2 27 "BookIndexModel" "headings" "I", Cond.constantLong RX2 129 (2113), Cond.constantLong RX2 131 (31), Cond.fieldLink RX2 17 "BookIndexModel" "see" "[I", Cond.fieldLink RX2 21 "BookIndexModel" "also" "[I", Cond.methodLink RX2 107 yX2_bare, Cond.instanceMethod yX2_bare, Cond.selects RX2 yX2_bare yX2_bare, Cond.initialized RX2, Cond.code yX2_bare cX2_bare 3 (some .int), Cond.methodLink RX2 45 yX2_onPage, Cond.instanceMethod yX2_onPage, Cond.selects RX2 yX2_onPage yX2_onPage, Cond.code yX2_onPage cX2_onPage 4 (some .int), Cond.methodLink RX2 34 yX2_has, Cond.instanceMethod yX2_has, Cond.selects RX2 yX2_has yX2_has, Cond.code yX2_has cX2_has 3 (some .boolean), Cond.fieldLink RX2 13 "BookIndexModel" "on" "[Z", Cond.methodLink RX2 111 yX2_fullest, Cond.instanceMethod yX2_fullest]
def wsX2_digest_r2 : List Cond := [Cond.selects RX2 yX2_fullest yX2_fullest, Cond.code yX2_fullest cX2_fullest 3 (some .int), Cond.methodLink RX2 114 yX2_vain, Cond.instanceMethod yX2_vain, Cond.selects RX2 yX2_vain yX2_vain, Cond.code yX2_vain cX2_vain 3 (some .int), Cond.methodLink RX2 49 yX2_end, Cond.instanceMethod yX2_end, Cond.selects RX2 yX2_end yX2_end, Cond.code yX2_end cX2_end 4 (some .int), Cond.methodLink RX2 52 yX2_many, Cond.instanceMethod yX2_many, Cond.selects RX2 yX2_many yX2_many, Cond.code yX2_many cX2_many 4 (some .int), Cond.methodLink RX2 123 yX2_alone, Cond.instanceMethod yX2_alone, Cond.selects RX2 yX2_alone yX2_alone, Cond.code yX2_alone cX2_alone 3 (some .int), Cond.methodLink RX2 55 yX2_step, Cond.instanceMethod yX2_step, Cond.selects RX2 yX2_step yX2_step, Cond.code yX2_step cX2_step 4 (some .int), Cond.methodLink RX2 61 yJ6_bitCount_0f7a4, Cond.static yJ6_bitCount_0f7a4]
def wsX2_digest_r3 : List Cond := [Cond.initialized RJ6, Cond.code yJ6_bitCount_0f7a4 cJ6_bitCount_0f7a4 1 (some .int), Cond.constant RJ6 265 (1431655765), Cond.constant RJ6 266 (858993459), Cond.constant RJ6 267 (252645135), Cond.methodLink RX2 88 yX2_spans, Cond.instanceMethod yX2_spans, Cond.selects RX2 yX2_spans yX2_spans, Cond.code yX2_spans cX2_spans 7 (some .int), Cond.methodLink RX2 58 yX2_all, Cond.instanceMethod yX2_all, Cond.selects RX2 yX2_all yX2_all, Cond.code yX2_all cX2_all 3 (some .int), Cond.methodLink RX2 120 yX2_rings, Cond.instanceMethod yX2_rings, Cond.selects RX2 yX2_rings yX2_rings, Cond.code yX2_rings cX2_rings 2 (some .boolean), Cond.methodLink RX2 126 yX2_near, Cond.instanceMethod yX2_near, Cond.selects RX2 yX2_near yX2_near, Cond.code yX2_near cX2_near 6 (some .int), Cond.methodLink RX2 42 yX2_common, Cond.instanceMethod yX2_common, Cond.selects RX2 yX2_common yX2_common]
def wsX2_digest_r4 : List Cond := [Cond.code yX2_common cX2_common 5 (some .int), Cond.methodLink RX2 38 yX2_begins, Cond.instanceMethod yX2_begins, Cond.selects RX2 yX2_begins yX2_begins, Cond.code yX2_begins cX2_begins 5 (some .int), Cond.methodLink RX2 101 yX2_ends, Cond.instanceMethod yX2_ends, Cond.selects RX2 yX2_ends yX2_ends, Cond.code yX2_ends cX2_ends 4 (some .int)]
def wsX2_digest : List Cond := .code yX2_digest cX2_digest 11 (some .long) :: ((wsX2_digest_r1 ++ (wsX2_digest_r2 ++ (wsX2_digest_r3 ++ wsX2_digest_r4))) ++ wsX20)
def wsJ9_max_7cf53 : List Cond := .code yJ9_max_7cf53 cJ9_max_7cf53 2 (some .int) :: ([])
def wsJ9_min_7cf53 : List Cond := .code yJ9_min_7cf53 cJ9_min_7cf53 2 (some .int) :: ([])
def wsL_addHeading : List Cond := .codeWith yL_addHeading cL_addHeading 3 (some .int) [(0, 8, 11, 13)] :: ([.classLink RL 13 "java/lang/IllegalStateException", .methodLink RL 7 yX1_addHeading, .instanceMethod yX1_addHeading, .selects RX1 yX1_addHeading yX1_addHeading, .initialized RX1, .code yX1_addHeading cX1_addHeading 2 (some .int), .classLink RX1 43 "java/lang/IllegalStateException", .initialized "java/lang/IllegalStateException", .fieldLink RX1 36 "BookIndex" "headingCount" "I", .fieldLink RX1 16 "BookIndex" "sees" "[I"] ++ wsX10 ++ (vx_atS RX1 47 "java/lang/IllegalStateException" ["java/lang/RuntimeException", "java/lang/Exception"]).filter goodWord)
def wsL_addPages_r1 : List Cond := [Cond.classLink RL 19 "java/lang/IndexOutOfBoundsException", Cond.classLink RL 21 "java/lang/IllegalArgumentException", Cond.classLink RL 13 "java/lang/IllegalStateException", Cond.methodLink RL 15 yX1_addPages, Cond.instanceMethod yX1_addPages, Cond.selects RX1 yX1_addPages yX1_addPages, Cond.initialized RX1, Cond.code yX1_addPages cX1_addPages 5 (some .int), Cond.classLink RX1 43 "java/lang/IllegalStateException", Cond.initialized "java/lang/IllegalStateException", Cond.fieldLink RX1 26 "BookIndex" "asked" "LBookIndex$Spans;", Cond.fieldLink RX1 30 "BookIndex" "made" "LBookIndex$Spans;", Cond.methodLink RX1 50 yX1_needHeading, Cond.instanceMethod yX1_needHeading, Cond.selects RX1 yX1_needHeading yX1_needHeading, Cond.code yX1_needHeading cX1_needHeading 2 none, Cond.classLink RX1 212 "java/lang/IndexOutOfBoundsException", Cond.initialized "java/lang/IndexOutOfBoundsException", Cond.methodLink RX1 209 yX1_isHeading, Cond.instanceMethod yX1_isHeading, Cond.selects RX1 yX1_isHeading yX1_isHeading, Cond.code yX1_isHeading cX1_isHeading 2 (some .boolean), Cond.fieldLink RX1 36 "BookIndex" "headingCount" "I", Cond.methodLink RX1 54 yX1_needPages]
def wsL_addPages_r2 : List Cond := [Cond.instanceMethod yX1_needPages, Cond.selects RX1 yX1_needPages yX1_needPages, Cond.code yX1_needPages cX1_needPages 3 none, Cond.classLink RX1 109 "java/lang/IllegalArgumentException", Cond.initialized "java/lang/IllegalArgumentException", Cond.fieldLink RX1 40 "BookIndex" "pageCount" "I", Cond.methodLink RX1 58 yX1_seeAt, Cond.instanceMethod yX1_seeAt, Cond.selects RX1 yX1_seeAt yX1_seeAt, Cond.code yX1_seeAt cX1_seeAt 2 (some .int), Cond.fieldLink RX1 16 "BookIndex" "sees" "[I", Cond.methodLink RX1 64 yX1_spansAt, Cond.instanceMethod yX1_spansAt, Cond.selects RX1 yX1_spansAt yX1_spansAt, Cond.code yX1_spansAt cX1_spansAt 3 (some (.object "BookIndex$Spans")), Cond.fieldLink RX1 11 "BookIndex" "spansByHeading" "[LBookIndex$Spans;", Cond.fieldLink RX1 33 "BookIndex" "noSpans" "LBookIndex$Spans;", Cond.methodLink RX1 68 yX0_becomeOne, Cond.instanceMethod yX0_becomeOne, Cond.selects RX0 yX0_becomeOne yX0_becomeOne, Cond.initialized RX0, Cond.code yX0_becomeOne cX0_becomeOne 3 none, Cond.fieldLink RX0 18 "BookIndex$Spans" "count" "I", Cond.methodLink RX0 31 yX0_append]
def wsL_addPages_r3 : List Cond := [Cond.instanceMethod yX0_append, Cond.selects RX0 yX0_append yX0_append, Cond.code yX0_append cX0_append 4 none, Cond.fieldLink RX0 15 "BookIndex$Spans" "lasts" "[I", Cond.methodLink RX0 22 Lib.Math.max.name, Cond.static Lib.Math.max.name, Cond.initialized "java/lang/Math", Cond.code Lib.Math.max.name Lib.Math.max.code 2 (some .int), Cond.fieldLink RX0 9 "BookIndex$Spans" "firsts" "[I", Cond.methodLink RX1 71 yX0_becomeUnion, Cond.instanceMethod yX0_becomeUnion, Cond.selects RX0 yX0_becomeUnion yX0_becomeUnion, Cond.code yX0_becomeUnion cX0_becomeUnion 7 none, Cond.methodLink RX0 39 yX0_first, Cond.instanceMethod yX0_first, Cond.selects RX0 yX0_first yX0_first, Cond.code yX0_first cX0_first 2 (some .int), Cond.methodLink RX0 43 yX0_last, Cond.instanceMethod yX0_last, Cond.selects RX0 yX0_last yX0_last, Cond.code yX0_last cX0_last 2 (some .int), Cond.methodLink RX1 75 yX1_needRoomForMade, Cond.instanceMethod yX1_needRoomForMade, Cond.selects RX1 yX1_needRoomForMade yX1_needRoomForMade]
def wsL_addPages_r4 : List Cond := [Cond.code yX1_needRoomForMade cX1_needRoomForMade 1 none, Cond.methodLink RX1 82 yX0_count, Cond.instanceMethod yX0_count, Cond.selects RX0 yX0_count yX0_count, Cond.code yX0_count cX0_count 1 (some .int), Cond.methodLink RX1 78 yX0_becomeSame, Cond.instanceMethod yX0_becomeSame, Cond.selects RX0 yX0_becomeSame yX0_becomeSame, Cond.code yX0_becomeSame cX0_becomeSame 2 none, Cond.methodLink RX0 35 yX0_becomeBridged, Cond.instanceMethod yX0_becomeBridged, Cond.selects RX0 yX0_becomeBridged yX0_becomeBridged, Cond.code yX0_becomeBridged cX0_becomeBridged 4 none]
def wsL_addPages : List Cond := .codeWith yL_addPages cL_addPages 6 (some .int) [(0, 12, 15, 19), (0, 12, 19, 21), (0, 12, 23, 13)] :: ((wsL_addPages_r1 ++ (wsL_addPages_r2 ++ (wsL_addPages_r3 ++ wsL_addPages_r4))) ++ wsX10 ++ wsX00 ++ (vx_atS RX1 47 "java/lang/IllegalStateException" ["java/lang/RuntimeException", "java/lang/Exception"]).filter goodWord ++ (vx_atS RX1 216 "java/lang/IndexOutOfBoundsException" ["java/lang/RuntimeException", "java/lang/Exception"]).filter goodWord ++ (vx_atS RX1 113 "java/lang/IllegalArgumentException" ["java/lang/RuntimeException", "java/lang/Exception"]).filter goodWord)
def wsL_takePages_r1 : List Cond := [Cond.classLink RL 19 "java/lang/IndexOutOfBoundsException", Cond.classLink RL 21 "java/lang/IllegalArgumentException", Cond.classLink RL 13 "java/lang/IllegalStateException", Cond.methodLink RL 23 yX1_takePages, Cond.instanceMethod yX1_takePages, Cond.selects RX1 yX1_takePages yX1_takePages, Cond.initialized RX1, Cond.code yX1_takePages cX1_takePages 6 (some .int), Cond.fieldLink RX1 30 "BookIndex" "made" "LBookIndex$Spans;", Cond.methodLink RX1 50 yX1_needHeading, Cond.instanceMethod yX1_needHeading, Cond.selects RX1 yX1_needHeading yX1_needHeading, Cond.code yX1_needHeading cX1_needHeading 2 none, Cond.classLink RX1 212 "java/lang/IndexOutOfBoundsException", Cond.initialized "java/lang/IndexOutOfBoundsException", Cond.methodLink RX1 209 yX1_isHeading, Cond.instanceMethod yX1_isHeading, Cond.selects RX1 yX1_isHeading yX1_isHeading, Cond.code yX1_isHeading cX1_isHeading 2 (some .boolean), Cond.fieldLink RX1 36 "BookIndex" "headingCount" "I", Cond.methodLink RX1 54 yX1_needPages, Cond.instanceMethod yX1_needPages, Cond.selects RX1 yX1_needPages yX1_needPages, Cond.code yX1_needPages cX1_needPages 3 none]
def wsL_takePages_r2 : List Cond := [Cond.classLink RX1 109 "java/lang/IllegalArgumentException", Cond.initialized "java/lang/IllegalArgumentException", Cond.fieldLink RX1 40 "BookIndex" "pageCount" "I", Cond.methodLink RX1 64 yX1_spansAt, Cond.instanceMethod yX1_spansAt, Cond.selects RX1 yX1_spansAt yX1_spansAt, Cond.code yX1_spansAt cX1_spansAt 3 (some (.object "BookIndex$Spans")), Cond.fieldLink RX1 11 "BookIndex" "spansByHeading" "[LBookIndex$Spans;", Cond.fieldLink RX1 33 "BookIndex" "noSpans" "LBookIndex$Spans;", Cond.methodLink RX1 86 yX0_becomeRest, Cond.instanceMethod yX0_becomeRest, Cond.selects RX0 yX0_becomeRest yX0_becomeRest, Cond.initialized RX0, Cond.code yX0_becomeRest cX0_becomeRest 5 none, Cond.fieldLink RX0 18 "BookIndex$Spans" "count" "I", Cond.fieldLink RX0 9 "BookIndex$Spans" "firsts" "[I", Cond.fieldLink RX0 15 "BookIndex$Spans" "lasts" "[I", Cond.methodLink RX0 28 Lib.Math.min.name, Cond.static Lib.Math.min.name, Cond.initialized "java/lang/Math", Cond.code Lib.Math.min.name Lib.Math.min.code 2 (some .int), Cond.methodLink RX0 22 Lib.Math.max.name, Cond.static Lib.Math.max.name, Cond.code Lib.Math.max.name Lib.Math.max.code 2 (some .int)]
def wsL_takePages_r3 : List Cond := [Cond.methodLink RX0 46 yX0_appendUnlessEmpty, Cond.instanceMethod yX0_appendUnlessEmpty, Cond.selects RX0 yX0_appendUnlessEmpty yX0_appendUnlessEmpty, Cond.code yX0_appendUnlessEmpty cX0_appendUnlessEmpty 3 none, Cond.methodLink RX0 31 yX0_append, Cond.instanceMethod yX0_append, Cond.selects RX0 yX0_append yX0_append, Cond.code yX0_append cX0_append 4 none, Cond.methodLink RX1 75 yX1_needRoomForMade, Cond.instanceMethod yX1_needRoomForMade, Cond.selects RX1 yX1_needRoomForMade yX1_needRoomForMade, Cond.code yX1_needRoomForMade cX1_needRoomForMade 1 none, Cond.classLink RX1 43 "java/lang/IllegalStateException", Cond.initialized "java/lang/IllegalStateException", Cond.methodLink RX1 82 yX0_count, Cond.instanceMethod yX0_count, Cond.selects RX0 yX0_count yX0_count, Cond.code yX0_count cX0_count 1 (some .int), Cond.methodLink RX1 90 yX0_pages, Cond.instanceMethod yX0_pages, Cond.selects RX0 yX0_pages yX0_pages, Cond.code yX0_pages cX0_pages 3 (some .int), Cond.methodLink RX1 78 yX0_becomeSame, Cond.instanceMethod yX0_becomeSame]
def wsL_takePages_r4 : List Cond := [Cond.selects RX0 yX0_becomeSame yX0_becomeSame, Cond.code yX0_becomeSame cX0_becomeSame 2 none, Cond.methodLink RX0 35 yX0_becomeBridged, Cond.instanceMethod yX0_becomeBridged, Cond.selects RX0 yX0_becomeBridged yX0_becomeBridged, Cond.code yX0_becomeBridged cX0_becomeBridged 4 none]
def wsL_takePages : List Cond := .codeWith yL_takePages cL_takePages 6 (some .int) [(0, 12, 15, 19), (0, 12, 19, 21), (0, 12, 23, 13)] :: ((wsL_takePages_r1 ++ (wsL_takePages_r2 ++ (wsL_takePages_r3 ++ wsL_takePages_r4))) ++ wsX10 ++ wsX00 ++ (vx_atS RX1 216 "java/lang/IndexOutOfBoundsException" ["java/lang/RuntimeException", "java/lang/Exception"]).filter goodWord ++ (vx_atS RX1 113 "java/lang/IllegalArgumentException" ["java/lang/RuntimeException", "java/lang/Exception"]).filter goodWord ++ (vx_atS RX1 47 "java/lang/IllegalStateException" ["java/lang/RuntimeException", "java/lang/Exception"]).filter goodWord)
def wsL_setSee_r1 : List Cond := [Cond.classLink RL 19 "java/lang/IndexOutOfBoundsException", Cond.classLink RL 21 "java/lang/IllegalArgumentException", Cond.classLink RL 13 "java/lang/IllegalStateException", Cond.methodLink RL 26 yX1_setSee, Cond.instanceMethod yX1_setSee, Cond.selects RX1 yX1_setSee yX1_setSee, Cond.initialized RX1, Cond.code yX1_setSee cX1_setSee 4 (some .int), Cond.fieldLink RX1 16 "BookIndex" "sees" "[I", Cond.methodLink RX1 50 yX1_needHeading, Cond.instanceMethod yX1_needHeading, Cond.selects RX1 yX1_needHeading yX1_needHeading, Cond.code yX1_needHeading cX1_needHeading 2 none, Cond.classLink RX1 212 "java/lang/IndexOutOfBoundsException", Cond.initialized "java/lang/IndexOutOfBoundsException", Cond.methodLink RX1 209 yX1_isHeading, Cond.instanceMethod yX1_isHeading, Cond.selects RX1 yX1_isHeading yX1_isHeading, Cond.code yX1_isHeading cX1_isHeading 2 (some .boolean), Cond.fieldLink RX1 36 "BookIndex" "headingCount" "I", Cond.methodLink RX1 93 yX1_needTwo, Cond.instanceMethod yX1_needTwo, Cond.selects RX1 yX1_needTwo yX1_needTwo, Cond.code yX1_needTwo cX1_needTwo 3 none]
def wsL_setSee_r2 : List Cond := [Cond.classLink RX1 109 "java/lang/IllegalArgumentException", Cond.initialized "java/lang/IllegalArgumentException", Cond.methodLink RX1 96 yX1_needNoPages, Cond.instanceMethod yX1_needNoPages, Cond.selects RX1 yX1_needNoPages yX1_needNoPages, Cond.code yX1_needNoPages cX1_needNoPages 2 none, Cond.classLink RX1 43 "java/lang/IllegalStateException", Cond.initialized "java/lang/IllegalStateException", Cond.methodLink RX1 64 yX1_spansAt, Cond.instanceMethod yX1_spansAt, Cond.selects RX1 yX1_spansAt yX1_spansAt, Cond.code yX1_spansAt cX1_spansAt 3 (some (.object "BookIndex$Spans")), Cond.fieldLink RX1 11 "BookIndex" "spansByHeading" "[LBookIndex$Spans;", Cond.fieldLink RX1 33 "BookIndex" "noSpans" "LBookIndex$Spans;", Cond.methodLink RX1 82 yX0_count, Cond.instanceMethod yX0_count, Cond.selects RX0 yX0_count yX0_count, Cond.initialized RX0, Cond.code yX0_count cX0_count 1 (some .int), Cond.fieldLink RX0 18 "BookIndex$Spans" "count" "I"]
def wsL_setSee : List Cond := .codeWith yL_setSee cL_setSee 5 (some .int) [(0, 10, 13, 19), (0, 10, 17, 21), (0, 10, 21, 13)] :: ((wsL_setSee_r1 ++ wsL_setSee_r2) ++ wsX10 ++ wsX00 ++ (vx_atS RX1 216 "java/lang/IndexOutOfBoundsException" ["java/lang/RuntimeException", "java/lang/Exception"]).filter goodWord ++ (vx_atS RX1 113 "java/lang/IllegalArgumentException" ["java/lang/RuntimeException", "java/lang/Exception"]).filter goodWord ++ (vx_atS RX1 47 "java/lang/IllegalStateException" ["java/lang/RuntimeException", "java/lang/Exception"]).filter goodWord)
def wsL_turnSeeAlso_r1 : List Cond := [Cond.classLink RL 19 "java/lang/IndexOutOfBoundsException", Cond.classLink RL 21 "java/lang/IllegalArgumentException", Cond.classLink RL 13 "java/lang/IllegalStateException", Cond.methodLink RL 30 yX1_turnSeeAlso, Cond.instanceMethod yX1_turnSeeAlso, Cond.selects RX1 yX1_turnSeeAlso yX1_turnSeeAlso, Cond.initialized RX1, Cond.code yX1_turnSeeAlso cX1_turnSeeAlso 4 (some .int), Cond.classLink RX1 43 "java/lang/IllegalStateException", Cond.initialized "java/lang/IllegalStateException", Cond.fieldLink RX1 20 "BookIndex" "seeAlsos" "[I", Cond.methodLink RX1 50 yX1_needHeading, Cond.instanceMethod yX1_needHeading, Cond.selects RX1 yX1_needHeading yX1_needHeading, Cond.code yX1_needHeading cX1_needHeading 2 none, Cond.classLink RX1 212 "java/lang/IndexOutOfBoundsException", Cond.initialized "java/lang/IndexOutOfBoundsException", Cond.methodLink RX1 209 yX1_isHeading, Cond.instanceMethod yX1_isHeading, Cond.selects RX1 yX1_isHeading yX1_isHeading, Cond.code yX1_isHeading cX1_isHeading 2 (some .boolean), Cond.fieldLink RX1 36 "BookIndex" "headingCount" "I", Cond.methodLink RX1 93 yX1_needTwo, Cond.instanceMethod yX1_needTwo]
def wsL_turnSeeAlso_r2 : List Cond := [Cond.selects RX1 yX1_needTwo yX1_needTwo, Cond.code yX1_needTwo cX1_needTwo 3 none, Cond.classLink RX1 109 "java/lang/IllegalArgumentException", Cond.initialized "java/lang/IllegalArgumentException", Cond.methodLink RX1 99 yX1_only, Cond.static yX1_only, Cond.code yX1_only cX1_only 1 (some .int), Cond.methodLink RX1 102 yJ6_bitCount_0f7a4, Cond.static yJ6_bitCount_0f7a4, Cond.initialized RJ6, Cond.code yJ6_bitCount_0f7a4 cJ6_bitCount_0f7a4 1 (some .int), Cond.constant RJ6 265 (1431655765), Cond.constant RJ6 266 (858993459), Cond.constant RJ6 267 (252645135)]
def wsL_turnSeeAlso : List Cond := .codeWith yL_turnSeeAlso cL_turnSeeAlso 5 (some .int) [(0, 10, 13, 19), (0, 10, 17, 21), (0, 10, 21, 13)] :: ((wsL_turnSeeAlso_r1 ++ wsL_turnSeeAlso_r2) ++ wsX10 ++ (vx_atS RX1 47 "java/lang/IllegalStateException" ["java/lang/RuntimeException", "java/lang/Exception"]).filter goodWord ++ (vx_atS RX1 216 "java/lang/IndexOutOfBoundsException" ["java/lang/RuntimeException", "java/lang/Exception"]).filter goodWord ++ (vx_atS RX1 113 "java/lang/IllegalArgumentException" ["java/lang/RuntimeException", "java/lang/Exception"]).filter goodWord)
def wsL_putIn_r1 : List Cond := [Cond.classLink RL 21 "java/lang/IllegalArgumentException", Cond.classLink RL 13 "java/lang/IllegalStateException", Cond.methodLink RL 33 yX1_putIn, Cond.instanceMethod yX1_putIn, Cond.selects RX1 yX1_putIn yX1_putIn, Cond.initialized RX1, Cond.code yX1_putIn cX1_putIn 4 (some .int), Cond.classLink RX1 109 "java/lang/IllegalArgumentException", Cond.initialized "java/lang/IllegalArgumentException", Cond.classLink RX1 43 "java/lang/IllegalStateException", Cond.initialized "java/lang/IllegalStateException", Cond.fieldLink RX1 40 "BookIndex" "pageCount" "I", Cond.fieldLink RX1 36 "BookIndex" "headingCount" "I", Cond.methodLink RX1 64 yX1_spansAt, Cond.instanceMethod yX1_spansAt, Cond.selects RX1 yX1_spansAt yX1_spansAt, Cond.code yX1_spansAt cX1_spansAt 3 (some (.object "BookIndex$Spans")), Cond.fieldLink RX1 11 "BookIndex" "spansByHeading" "[LBookIndex$Spans;", Cond.fieldLink RX1 33 "BookIndex" "noSpans" "LBookIndex$Spans;", Cond.methodLink RX1 209 yX1_isHeading, Cond.instanceMethod yX1_isHeading, Cond.selects RX1 yX1_isHeading yX1_isHeading, Cond.code yX1_isHeading cX1_isHeading 2 (some .boolean), Cond.methodLink RX1 118 yX0_moveOn]
def wsL_putIn_r2 : List Cond := [Cond.instanceMethod yX0_moveOn, Cond.selects RX0 yX0_moveOn yX0_moveOn, Cond.initialized RX0, Cond.code yX0_moveOn cX0_moveOn 4 none, Cond.fieldLink RX0 18 "BookIndex$Spans" "count" "I", Cond.fieldLink RX0 9 "BookIndex$Spans" "firsts" "[I", Cond.fieldLink RX0 15 "BookIndex$Spans" "lasts" "[I"]
def wsL_putIn : List Cond := .codeWith yL_putIn cL_putIn 5 (some .int) [(0, 10, 13, 21), (0, 10, 17, 13)] :: ((wsL_putIn_r1 ++ wsL_putIn_r2) ++ wsX10 ++ wsX00 ++ (vx_atS RX1 113 "java/lang/IllegalArgumentException" ["java/lang/RuntimeException", "java/lang/Exception"]).filter goodWord ++ (vx_atS RX1 47 "java/lang/IllegalStateException" ["java/lang/RuntimeException", "java/lang/Exception"]).filter goodWord)
def wsL_takeOut_r1 : List Cond := [Cond.classLink RL 21 "java/lang/IllegalArgumentException", Cond.classLink RL 13 "java/lang/IllegalStateException", Cond.methodLink RL 36 yX1_takeOut, Cond.instanceMethod yX1_takeOut, Cond.selects RX1 yX1_takeOut yX1_takeOut, Cond.initialized RX1, Cond.code yX1_takeOut cX1_takeOut 5 (some .int), Cond.classLink RX1 43 "java/lang/IllegalStateException", Cond.initialized "java/lang/IllegalStateException", Cond.fieldLink RX1 40 "BookIndex" "pageCount" "I", Cond.fieldLink RX1 36 "BookIndex" "headingCount" "I", Cond.fieldLink RX1 30 "BookIndex" "made" "LBookIndex$Spans;", Cond.methodLink RX1 121 yX1_needPage, Cond.instanceMethod yX1_needPage, Cond.selects RX1 yX1_needPage yX1_needPage, Cond.code yX1_needPage cX1_needPage 2 none, Cond.classLink RX1 109 "java/lang/IllegalArgumentException", Cond.initialized "java/lang/IllegalArgumentException", Cond.methodLink RX1 126 yX1_countHeadingsOn, Cond.instanceMethod yX1_countHeadingsOn, Cond.selects RX1 yX1_countHeadingsOn yX1_countHeadingsOn, Cond.code yX1_countHeadingsOn cX1_countHeadingsOn 4 (some .int), Cond.methodLink RX1 64 yX1_spansAt, Cond.instanceMethod yX1_spansAt]
def wsL_takeOut_r2 : List Cond := [Cond.selects RX1 yX1_spansAt yX1_spansAt, Cond.code yX1_spansAt cX1_spansAt 3 (some (.object "BookIndex$Spans")), Cond.fieldLink RX1 11 "BookIndex" "spansByHeading" "[LBookIndex$Spans;", Cond.fieldLink RX1 33 "BookIndex" "noSpans" "LBookIndex$Spans;", Cond.methodLink RX1 209 yX1_isHeading, Cond.instanceMethod yX1_isHeading, Cond.selects RX1 yX1_isHeading yX1_isHeading, Cond.code yX1_isHeading cX1_isHeading 2 (some .boolean), Cond.methodLink RX1 145 yX0_has, Cond.instanceMethod yX0_has, Cond.selects RX0 yX0_has yX0_has, Cond.initialized RX0, Cond.code yX0_has cX0_has 3 (some .boolean), Cond.fieldLink RX0 18 "BookIndex$Spans" "count" "I", Cond.fieldLink RX0 9 "BookIndex$Spans" "firsts" "[I", Cond.fieldLink RX0 15 "BookIndex$Spans" "lasts" "[I", Cond.methodLink RX1 129 yX0_becomeWithoutPageOfBook, Cond.instanceMethod yX0_becomeWithoutPageOfBook, Cond.selects RX0 yX0_becomeWithoutPageOfBook yX0_becomeWithoutPageOfBook, Cond.code yX0_becomeWithoutPageOfBook cX0_becomeWithoutPageOfBook 6 none, Cond.methodLink RX0 46 yX0_appendUnlessEmpty, Cond.instanceMethod yX0_appendUnlessEmpty, Cond.selects RX0 yX0_appendUnlessEmpty yX0_appendUnlessEmpty, Cond.code yX0_appendUnlessEmpty cX0_appendUnlessEmpty 3 none]
def wsL_takeOut_r3 : List Cond := [Cond.methodLink RX0 31 yX0_append, Cond.instanceMethod yX0_append, Cond.selects RX0 yX0_append yX0_append, Cond.code yX0_append cX0_append 4 none, Cond.methodLink RX0 22 Lib.Math.max.name, Cond.static Lib.Math.max.name, Cond.initialized "java/lang/Math", Cond.code Lib.Math.max.name Lib.Math.max.code 2 (some .int), Cond.methodLink RX1 78 yX0_becomeSame, Cond.instanceMethod yX0_becomeSame, Cond.selects RX0 yX0_becomeSame yX0_becomeSame, Cond.code yX0_becomeSame cX0_becomeSame 2 none, Cond.methodLink RX0 35 yX0_becomeBridged, Cond.instanceMethod yX0_becomeBridged, Cond.selects RX0 yX0_becomeBridged yX0_becomeBridged, Cond.code yX0_becomeBridged cX0_becomeBridged 4 none]
def wsL_takeOut : List Cond := .codeWith yL_takeOut cL_takeOut 4 (some .int) [(0, 9, 12, 21), (0, 9, 15, 13)] :: ((wsL_takeOut_r1 ++ (wsL_takeOut_r2 ++ wsL_takeOut_r3)) ++ wsX10 ++ wsX00 ++ (vx_atS RX1 47 "java/lang/IllegalStateException" ["java/lang/RuntimeException", "java/lang/Exception"]).filter goodWord ++ (vx_atS RX1 113 "java/lang/IllegalArgumentException" ["java/lang/RuntimeException", "java/lang/Exception"]).filter goodWord)
def wsL_spansOf_r1 : List Cond := [Cond.classLink RL 19 "java/lang/IndexOutOfBoundsException", Cond.methodLink RL 40 yX1_spansOf, Cond.instanceMethod yX1_spansOf, Cond.selects RX1 yX1_spansOf yX1_spansOf, Cond.initialized RX1, Cond.code yX1_spansOf cX1_spansOf 2 (some .int), Cond.methodLink RX1 50 yX1_needHeading, Cond.instanceMethod yX1_needHeading, Cond.selects RX1 yX1_needHeading yX1_needHeading, Cond.code yX1_needHeading cX1_needHeading 2 none, Cond.classLink RX1 212 "java/lang/IndexOutOfBoundsException", Cond.initialized "java/lang/IndexOutOfBoundsException", Cond.methodLink RX1 209 yX1_isHeading, Cond.instanceMethod yX1_isHeading, Cond.selects RX1 yX1_isHeading yX1_isHeading, Cond.code yX1_isHeading cX1_isHeading 2 (some .boolean), Cond.fieldLink RX1 36 "BookIndex" "headingCount" "I", Cond.methodLink RX1 64 yX1_spansAt, Cond.instanceMethod yX1_spansAt, Cond.selects RX1 yX1_spansAt yX1_spansAt, Cond.code yX1_spansAt cX1_spansAt 3 (some (.object "BookIndex$Spans")), Cond.fieldLink RX1 11 "BookIndex" "spansByHeading" "[LBookIndex$Spans;", Cond.fieldLink RX1 33 "BookIndex" "noSpans" "LBookIndex$Spans;", Cond.methodLink RX1 82 yX0_count]
def wsL_spansOf_r2 : List Cond := [Cond.instanceMethod yX0_count, Cond.selects RX0 yX0_count yX0_count, Cond.initialized RX0, Cond.code yX0_count cX0_count 1 (some .int), Cond.fieldLink RX0 18 "BookIndex$Spans" "count" "I"]
def wsL_spansOf : List Cond := .codeWith yL_spansOf cL_spansOf 4 (some .int) [(0, 9, 12, 19)] :: ((wsL_spansOf_r1 ++ wsL_spansOf_r2) ++ wsX10 ++ wsX00 ++ (vx_atS RX1 216 "java/lang/IndexOutOfBoundsException" ["java/lang/RuntimeException", "java/lang/Exception"]).filter goodWord)
def wsL_startOf_r1 : List Cond := [Cond.classLink RL 19 "java/lang/IndexOutOfBoundsException", Cond.methodLink RL 43 yX1_startOf, Cond.instanceMethod yX1_startOf, Cond.selects RX1 yX1_startOf yX1_startOf, Cond.initialized RX1, Cond.code yX1_startOf cX1_startOf 3 (some .int), Cond.methodLink RX1 50 yX1_needHeading, Cond.instanceMethod yX1_needHeading, Cond.selects RX1 yX1_needHeading yX1_needHeading, Cond.code yX1_needHeading cX1_needHeading 2 none, Cond.classLink RX1 212 "java/lang/IndexOutOfBoundsException", Cond.initialized "java/lang/IndexOutOfBoundsException", Cond.methodLink RX1 209 yX1_isHeading, Cond.instanceMethod yX1_isHeading, Cond.selects RX1 yX1_isHeading yX1_isHeading, Cond.code yX1_isHeading cX1_isHeading 2 (some .boolean), Cond.fieldLink RX1 36 "BookIndex" "headingCount" "I", Cond.methodLink RX1 133 yX1_needSpan, Cond.instanceMethod yX1_needSpan, Cond.selects RX1 yX1_needSpan yX1_needSpan, Cond.code yX1_needSpan cX1_needSpan 3 none, Cond.methodLink RX1 64 yX1_spansAt, Cond.instanceMethod yX1_spansAt, Cond.selects RX1 yX1_spansAt yX1_spansAt]
def wsL_startOf_r2 : List Cond := [Cond.code yX1_spansAt cX1_spansAt 3 (some (.object "BookIndex$Spans")), Cond.fieldLink RX1 11 "BookIndex" "spansByHeading" "[LBookIndex$Spans;", Cond.fieldLink RX1 33 "BookIndex" "noSpans" "LBookIndex$Spans;", Cond.methodLink RX1 82 yX0_count, Cond.instanceMethod yX0_count, Cond.selects RX0 yX0_count yX0_count, Cond.initialized RX0, Cond.code yX0_count cX0_count 1 (some .int), Cond.fieldLink RX0 18 "BookIndex$Spans" "count" "I", Cond.methodLink RX1 136 yX0_first, Cond.instanceMethod yX0_first, Cond.selects RX0 yX0_first yX0_first, Cond.code yX0_first cX0_first 2 (some .int), Cond.fieldLink RX0 9 "BookIndex$Spans" "firsts" "[I"]
def wsL_startOf : List Cond := .codeWith yL_startOf cL_startOf 5 (some .int) [(0, 10, 13, 19)] :: ((wsL_startOf_r1 ++ wsL_startOf_r2) ++ wsX10 ++ wsX00 ++ (vx_atS RX1 216 "java/lang/IndexOutOfBoundsException" ["java/lang/RuntimeException", "java/lang/Exception"]).filter goodWord)
def wsL_endOf_r1 : List Cond := [Cond.classLink RL 19 "java/lang/IndexOutOfBoundsException", Cond.methodLink RL 46 yX1_endOf, Cond.instanceMethod yX1_endOf, Cond.selects RX1 yX1_endOf yX1_endOf, Cond.initialized RX1, Cond.code yX1_endOf cX1_endOf 3 (some .int), Cond.methodLink RX1 50 yX1_needHeading, Cond.instanceMethod yX1_needHeading, Cond.selects RX1 yX1_needHeading yX1_needHeading, Cond.code yX1_needHeading cX1_needHeading 2 none, Cond.classLink RX1 212 "java/lang/IndexOutOfBoundsException", Cond.initialized "java/lang/IndexOutOfBoundsException", Cond.methodLink RX1 209 yX1_isHeading, Cond.instanceMethod yX1_isHeading, Cond.selects RX1 yX1_isHeading yX1_isHeading, Cond.code yX1_isHeading cX1_isHeading 2 (some .boolean), Cond.fieldLink RX1 36 "BookIndex" "headingCount" "I", Cond.methodLink RX1 133 yX1_needSpan, Cond.instanceMethod yX1_needSpan, Cond.selects RX1 yX1_needSpan yX1_needSpan, Cond.code yX1_needSpan cX1_needSpan 3 none, Cond.methodLink RX1 64 yX1_spansAt, Cond.instanceMethod yX1_spansAt, Cond.selects RX1 yX1_spansAt yX1_spansAt]
def wsL_endOf_r2 : List Cond := [Cond.code yX1_spansAt cX1_spansAt 3 (some (.object "BookIndex$Spans")), Cond.fieldLink RX1 11 "BookIndex" "spansByHeading" "[LBookIndex$Spans;", Cond.fieldLink RX1 33 "BookIndex" "noSpans" "LBookIndex$Spans;", Cond.methodLink RX1 82 yX0_count, Cond.instanceMethod yX0_count, Cond.selects RX0 yX0_count yX0_count, Cond.initialized RX0, Cond.code yX0_count cX0_count 1 (some .int), Cond.fieldLink RX0 18 "BookIndex$Spans" "count" "I", Cond.methodLink RX1 139 yX0_last, Cond.instanceMethod yX0_last, Cond.selects RX0 yX0_last yX0_last, Cond.code yX0_last cX0_last 2 (some .int), Cond.fieldLink RX0 15 "BookIndex$Spans" "lasts" "[I"]
def wsL_endOf : List Cond := .codeWith yL_endOf cL_endOf 5 (some .int) [(0, 10, 13, 19)] :: ((wsL_endOf_r1 ++ wsL_endOf_r2) ++ wsX10 ++ wsX00 ++ (vx_atS RX1 216 "java/lang/IndexOutOfBoundsException" ["java/lang/RuntimeException", "java/lang/Exception"]).filter goodWord)
def wsL_pagesOf_r1 : List Cond := [Cond.classLink RL 19 "java/lang/IndexOutOfBoundsException", Cond.methodLink RL 49 yX1_pagesOf, Cond.instanceMethod yX1_pagesOf, Cond.selects RX1 yX1_pagesOf yX1_pagesOf, Cond.initialized RX1, Cond.code yX1_pagesOf cX1_pagesOf 2 (some .int), Cond.methodLink RX1 50 yX1_needHeading, Cond.instanceMethod yX1_needHeading, Cond.selects RX1 yX1_needHeading yX1_needHeading, Cond.code yX1_needHeading cX1_needHeading 2 none, Cond.classLink RX1 212 "java/lang/IndexOutOfBoundsException", Cond.initialized "java/lang/IndexOutOfBoundsException", Cond.methodLink RX1 209 yX1_isHeading, Cond.instanceMethod yX1_isHeading, Cond.selects RX1 yX1_isHeading yX1_isHeading, Cond.code yX1_isHeading cX1_isHeading 2 (some .boolean), Cond.fieldLink RX1 36 "BookIndex" "headingCount" "I", Cond.methodLink RX1 64 yX1_spansAt, Cond.instanceMethod yX1_spansAt, Cond.selects RX1 yX1_spansAt yX1_spansAt, Cond.code yX1_spansAt cX1_spansAt 3 (some (.object "BookIndex$Spans")), Cond.fieldLink RX1 11 "BookIndex" "spansByHeading" "[LBookIndex$Spans;", Cond.fieldLink RX1 33 "BookIndex" "noSpans" "LBookIndex$Spans;", Cond.methodLink RX1 90 yX0_pages]
def wsL_pagesOf_r2 : List Cond := [Cond.instanceMethod yX0_pages, Cond.selects RX0 yX0_pages yX0_pages, Cond.initialized RX0, Cond.code yX0_pages cX0_pages 3 (some .int), Cond.fieldLink RX0 18 "BookIndex$Spans" "count" "I", Cond.fieldLink RX0 15 "BookIndex$Spans" "lasts" "[I", Cond.fieldLink RX0 9 "BookIndex$Spans" "firsts" "[I"]
def wsL_pagesOf : List Cond := .codeWith yL_pagesOf cL_pagesOf 4 (some .int) [(0, 9, 12, 19)] :: ((wsL_pagesOf_r1 ++ wsL_pagesOf_r2) ++ wsX10 ++ wsX00 ++ (vx_atS RX1 216 "java/lang/IndexOutOfBoundsException" ["java/lang/RuntimeException", "java/lang/Exception"]).filter goodWord)
def wsL_seeOf : List Cond := .codeWith yL_seeOf cL_seeOf 4 (some .int) [(0, 9, 12, 19)] :: ([.classLink RL 19 "java/lang/IndexOutOfBoundsException", .methodLink RL 52 yX1_seeOf, .instanceMethod yX1_seeOf, .selects RX1 yX1_seeOf yX1_seeOf, .initialized RX1, .code yX1_seeOf cX1_seeOf 2 (some .int), .methodLink RX1 50 yX1_needHeading, .instanceMethod yX1_needHeading, .selects RX1 yX1_needHeading yX1_needHeading, .code yX1_needHeading cX1_needHeading 2 none, .classLink RX1 212 "java/lang/IndexOutOfBoundsException", .initialized "java/lang/IndexOutOfBoundsException", .methodLink RX1 209 yX1_isHeading, .instanceMethod yX1_isHeading, .selects RX1 yX1_isHeading yX1_isHeading, .code yX1_isHeading cX1_isHeading 2 (some .boolean), .fieldLink RX1 36 "BookIndex" "headingCount" "I", .methodLink RX1 58 yX1_seeAt, .instanceMethod yX1_seeAt, .selects RX1 yX1_seeAt yX1_seeAt, .code yX1_seeAt cX1_seeAt 2 (some .int), .fieldLink RX1 16 "BookIndex" "sees" "[I"] ++ wsX10 ++ (vx_atS RX1 216 "java/lang/IndexOutOfBoundsException" ["java/lang/RuntimeException", "java/lang/Exception"]).filter goodWord)
def wsL_seeAlsosOf_r1 : List Cond := [Cond.classLink RL 19 "java/lang/IndexOutOfBoundsException", Cond.methodLink RL 55 yX1_seeAlsosOf, Cond.instanceMethod yX1_seeAlsosOf, Cond.selects RX1 yX1_seeAlsosOf yX1_seeAlsosOf, Cond.initialized RX1, Cond.code yX1_seeAlsosOf cX1_seeAlsosOf 2 (some .int), Cond.methodLink RX1 50 yX1_needHeading, Cond.instanceMethod yX1_needHeading, Cond.selects RX1 yX1_needHeading yX1_needHeading, Cond.code yX1_needHeading cX1_needHeading 2 none, Cond.classLink RX1 212 "java/lang/IndexOutOfBoundsException", Cond.initialized "java/lang/IndexOutOfBoundsException", Cond.methodLink RX1 209 yX1_isHeading, Cond.instanceMethod yX1_isHeading, Cond.selects RX1 yX1_isHeading yX1_isHeading, Cond.code yX1_isHeading cX1_isHeading 2 (some .boolean), Cond.fieldLink RX1 36 "BookIndex" "headingCount" "I", Cond.methodLink RX1 142 yX1_countSeeAlsos, Cond.instanceMethod yX1_countSeeAlsos, Cond.selects RX1 yX1_countSeeAlsos yX1_countSeeAlsos, Cond.code yX1_countSeeAlsos cX1_countSeeAlsos 2 (some .int), Cond.fieldLink RX1 20 "BookIndex" "seeAlsos" "[I", Cond.methodLink RX1 102 yJ6_bitCount_0f7a4, Cond.static yJ6_bitCount_0f7a4]
def wsL_seeAlsosOf_r2 : List Cond := [Cond.initialized RJ6, Cond.code yJ6_bitCount_0f7a4 cJ6_bitCount_0f7a4 1 (some .int), Cond.constant RJ6 265 (1431655765), Cond.constant RJ6 266 (858993459), Cond.constant RJ6 267 (252645135)]
def wsL_seeAlsosOf : List Cond := .codeWith yL_seeAlsosOf cL_seeAlsosOf 4 (some .int) [(0, 9, 12, 19)] :: ((wsL_seeAlsosOf_r1 ++ wsL_seeAlsosOf_r2) ++ wsX10 ++ (vx_atS RX1 216 "java/lang/IndexOutOfBoundsException" ["java/lang/RuntimeException", "java/lang/Exception"]).filter goodWord)
def wsL_isOn_r1 : List Cond := [Cond.classLink RL 19 "java/lang/IndexOutOfBoundsException", Cond.classLink RL 21 "java/lang/IllegalArgumentException", Cond.methodLink RL 58 yX1_isOn, Cond.instanceMethod yX1_isOn, Cond.selects RX1 yX1_isOn yX1_isOn, Cond.initialized RX1, Cond.code yX1_isOn cX1_isOn 3 (some .boolean), Cond.methodLink RX1 50 yX1_needHeading, Cond.instanceMethod yX1_needHeading, Cond.selects RX1 yX1_needHeading yX1_needHeading, Cond.code yX1_needHeading cX1_needHeading 2 none, Cond.classLink RX1 212 "java/lang/IndexOutOfBoundsException", Cond.initialized "java/lang/IndexOutOfBoundsException", Cond.methodLink RX1 209 yX1_isHeading, Cond.instanceMethod yX1_isHeading, Cond.selects RX1 yX1_isHeading yX1_isHeading, Cond.code yX1_isHeading cX1_isHeading 2 (some .boolean), Cond.fieldLink RX1 36 "BookIndex" "headingCount" "I", Cond.methodLink RX1 121 yX1_needPage, Cond.instanceMethod yX1_needPage, Cond.selects RX1 yX1_needPage yX1_needPage, Cond.code yX1_needPage cX1_needPage 2 none, Cond.classLink RX1 109 "java/lang/IllegalArgumentException", Cond.initialized "java/lang/IllegalArgumentException"]
def wsL_isOn_r2 : List Cond := [Cond.fieldLink RX1 40 "BookIndex" "pageCount" "I", Cond.methodLink RX1 64 yX1_spansAt, Cond.instanceMethod yX1_spansAt, Cond.selects RX1 yX1_spansAt yX1_spansAt, Cond.code yX1_spansAt cX1_spansAt 3 (some (.object "BookIndex$Spans")), Cond.fieldLink RX1 11 "BookIndex" "spansByHeading" "[LBookIndex$Spans;", Cond.fieldLink RX1 33 "BookIndex" "noSpans" "LBookIndex$Spans;", Cond.methodLink RX1 145 yX0_has, Cond.instanceMethod yX0_has, Cond.selects RX0 yX0_has yX0_has, Cond.initialized RX0, Cond.code yX0_has cX0_has 3 (some .boolean), Cond.fieldLink RX0 18 "BookIndex$Spans" "count" "I", Cond.fieldLink RX0 9 "BookIndex$Spans" "firsts" "[I", Cond.fieldLink RX0 15 "BookIndex$Spans" "lasts" "[I"]
def wsL_isOn : List Cond := .codeWith yL_isOn cL_isOn 5 (some .int) [(0, 17, 20, 19), (0, 17, 24, 21)] :: ((wsL_isOn_r1 ++ wsL_isOn_r2) ++ wsX10 ++ wsX00 ++ (vx_atS RX1 216 "java/lang/IndexOutOfBoundsException" ["java/lang/RuntimeException", "java/lang/Exception"]).filter goodWord ++ (vx_atS RX1 113 "java/lang/IllegalArgumentException" ["java/lang/RuntimeException", "java/lang/Exception"]).filter goodWord)
def wsL_headingsOn_r1 : List Cond := [Cond.classLink RL 21 "java/lang/IllegalArgumentException", Cond.methodLink RL 62 yX1_headingsOn, Cond.instanceMethod yX1_headingsOn, Cond.selects RX1 yX1_headingsOn yX1_headingsOn, Cond.initialized RX1, Cond.code yX1_headingsOn cX1_headingsOn 2 (some .int), Cond.methodLink RX1 121 yX1_needPage, Cond.instanceMethod yX1_needPage, Cond.selects RX1 yX1_needPage yX1_needPage, Cond.code yX1_needPage cX1_needPage 2 none, Cond.classLink RX1 109 "java/lang/IllegalArgumentException", Cond.initialized "java/lang/IllegalArgumentException", Cond.fieldLink RX1 40 "BookIndex" "pageCount" "I", Cond.methodLink RX1 126 yX1_countHeadingsOn, Cond.instanceMethod yX1_countHeadingsOn, Cond.selects RX1 yX1_countHeadingsOn yX1_countHeadingsOn, Cond.code yX1_countHeadingsOn cX1_countHeadingsOn 4 (some .int), Cond.fieldLink RX1 36 "BookIndex" "headingCount" "I", Cond.methodLink RX1 64 yX1_spansAt, Cond.instanceMethod yX1_spansAt, Cond.selects RX1 yX1_spansAt yX1_spansAt, Cond.code yX1_spansAt cX1_spansAt 3 (some (.object "BookIndex$Spans")), Cond.fieldLink RX1 11 "BookIndex" "spansByHeading" "[LBookIndex$Spans;", Cond.fieldLink RX1 33 "BookIndex" "noSpans" "LBookIndex$Spans;"]
def wsL_headingsOn_r2 : List Cond := [Cond.methodLink RX1 209 yX1_isHeading, Cond.instanceMethod yX1_isHeading, Cond.selects RX1 yX1_isHeading yX1_isHeading, Cond.code yX1_isHeading cX1_isHeading 2 (some .boolean), Cond.methodLink RX1 145 yX0_has, Cond.instanceMethod yX0_has, Cond.selects RX0 yX0_has yX0_has, Cond.initialized RX0, Cond.code yX0_has cX0_has 3 (some .boolean), Cond.fieldLink RX0 18 "BookIndex$Spans" "count" "I", Cond.fieldLink RX0 9 "BookIndex$Spans" "firsts" "[I", Cond.fieldLink RX0 15 "BookIndex$Spans" "lasts" "[I"]
def wsL_headingsOn : List Cond := .codeWith yL_headingsOn cL_headingsOn 4 (some .int) [(0, 9, 12, 21)] :: ((wsL_headingsOn_r1 ++ wsL_headingsOn_r2) ++ wsX10 ++ wsX00 ++ (vx_atS RX1 113 "java/lang/IllegalArgumentException" ["java/lang/RuntimeException", "java/lang/Exception"]).filter goodWord)
def wsL_leadsTo_r1 : List Cond := [Cond.classLink RL 19 "java/lang/IndexOutOfBoundsException", Cond.methodLink RL 65 yX1_leadsTo, Cond.instanceMethod yX1_leadsTo, Cond.selects RX1 yX1_leadsTo yX1_leadsTo, Cond.initialized RX1, Cond.code yX1_leadsTo cX1_leadsTo 2 (some .int), Cond.methodLink RX1 50 yX1_needHeading, Cond.instanceMethod yX1_needHeading, Cond.selects RX1 yX1_needHeading yX1_needHeading, Cond.code yX1_needHeading cX1_needHeading 2 none, Cond.classLink RX1 212 "java/lang/IndexOutOfBoundsException", Cond.initialized "java/lang/IndexOutOfBoundsException", Cond.methodLink RX1 209 yX1_isHeading, Cond.instanceMethod yX1_isHeading, Cond.selects RX1 yX1_isHeading yX1_isHeading, Cond.code yX1_isHeading cX1_isHeading 2 (some .boolean), Cond.fieldLink RX1 36 "BookIndex" "headingCount" "I", Cond.methodLink RX1 152 yX1_endOfSees, Cond.instanceMethod yX1_endOfSees, Cond.selects RX1 yX1_endOfSees yX1_endOfSees, Cond.code yX1_endOfSees cX1_endOfSees 5 (some .int), Cond.methodLink RX1 58 yX1_seeAt, Cond.instanceMethod yX1_seeAt, Cond.selects RX1 yX1_seeAt yX1_seeAt]
def wsL_leadsTo_r2 : List Cond := [Cond.code yX1_seeAt cX1_seeAt 2 (some .int), Cond.fieldLink RX1 16 "BookIndex" "sees" "[I"]
def wsL_leadsTo : List Cond := .codeWith yL_leadsTo cL_leadsTo 4 (some .int) [(0, 9, 12, 19)] :: ((wsL_leadsTo_r1 ++ wsL_leadsTo_r2) ++ wsX10 ++ (vx_atS RX1 216 "java/lang/IndexOutOfBoundsException" ["java/lang/RuntimeException", "java/lang/Exception"]).filter goodWord)
def wsL_steps_r1 : List Cond := [Cond.classLink RL 19 "java/lang/IndexOutOfBoundsException", Cond.methodLink RL 68 yX1_steps, Cond.instanceMethod yX1_steps, Cond.selects RX1 yX1_steps yX1_steps, Cond.initialized RX1, Cond.code yX1_steps cX1_steps 5 (some .int), Cond.methodLink RX1 50 yX1_needHeading, Cond.instanceMethod yX1_needHeading, Cond.selects RX1 yX1_needHeading yX1_needHeading, Cond.code yX1_needHeading cX1_needHeading 2 none, Cond.classLink RX1 212 "java/lang/IndexOutOfBoundsException", Cond.initialized "java/lang/IndexOutOfBoundsException", Cond.methodLink RX1 209 yX1_isHeading, Cond.instanceMethod yX1_isHeading, Cond.selects RX1 yX1_isHeading yX1_isHeading, Cond.code yX1_isHeading cX1_isHeading 2 (some .boolean), Cond.fieldLink RX1 36 "BookIndex" "headingCount" "I", Cond.methodLink RX1 99 yX1_only, Cond.static yX1_only, Cond.code yX1_only cX1_only 1 (some .int), Cond.methodLink RX1 158 yX1_oneStepFrom, Cond.instanceMethod yX1_oneStepFrom, Cond.selects RX1 yX1_oneStepFrom yX1_oneStepFrom, Cond.code yX1_oneStepFrom cX1_oneStepFrom 4 (some .int)]
def wsL_steps_r2 : List Cond := [Cond.fieldLink RX1 20 "BookIndex" "seeAlsos" "[I", Cond.fieldLink RX1 16 "BookIndex" "sees" "[I"]
def wsL_steps : List Cond := .codeWith yL_steps cL_steps 5 (some .int) [(0, 10, 13, 19)] :: ((wsL_steps_r1 ++ wsL_steps_r2) ++ wsX10 ++ (vx_atS RX1 216 "java/lang/IndexOutOfBoundsException" ["java/lang/RuntimeException", "java/lang/Exception"]).filter goodWord)
def wsL_reachOf_r1 : List Cond := [Cond.classLink RL 19 "java/lang/IndexOutOfBoundsException", Cond.methodLink RL 71 yX1_reachOf, Cond.instanceMethod yX1_reachOf, Cond.selects RX1 yX1_reachOf yX1_reachOf, Cond.initialized RX1, Cond.code yX1_reachOf cX1_reachOf 2 (some .int), Cond.methodLink RX1 50 yX1_needHeading, Cond.instanceMethod yX1_needHeading, Cond.selects RX1 yX1_needHeading yX1_needHeading, Cond.code yX1_needHeading cX1_needHeading 2 none, Cond.classLink RX1 212 "java/lang/IndexOutOfBoundsException", Cond.initialized "java/lang/IndexOutOfBoundsException", Cond.methodLink RX1 209 yX1_isHeading, Cond.instanceMethod yX1_isHeading, Cond.selects RX1 yX1_isHeading yX1_isHeading, Cond.code yX1_isHeading cX1_isHeading 2 (some .boolean), Cond.fieldLink RX1 36 "BookIndex" "headingCount" "I", Cond.methodLink RX1 161 yX1_countReached, Cond.instanceMethod yX1_countReached, Cond.selects RX1 yX1_countReached yX1_countReached, Cond.code yX1_countReached cX1_countReached 2 (some .int), Cond.methodLink RX1 99 yX1_only, Cond.static yX1_only, Cond.code yX1_only cX1_only 1 (some .int)]
def wsL_reachOf_r2 : List Cond := [Cond.methodLink RX1 235 yX1_allStepsFrom, Cond.instanceMethod yX1_allStepsFrom, Cond.selects RX1 yX1_allStepsFrom yX1_allStepsFrom, Cond.code yX1_allStepsFrom cX1_allStepsFrom 5 (some .int), Cond.methodLink RX1 158 yX1_oneStepFrom, Cond.instanceMethod yX1_oneStepFrom, Cond.selects RX1 yX1_oneStepFrom yX1_oneStepFrom, Cond.code yX1_oneStepFrom cX1_oneStepFrom 4 (some .int), Cond.fieldLink RX1 20 "BookIndex" "seeAlsos" "[I", Cond.fieldLink RX1 16 "BookIndex" "sees" "[I", Cond.methodLink RX1 102 yJ6_bitCount_0f7a4, Cond.static yJ6_bitCount_0f7a4, Cond.initialized RJ6, Cond.code yJ6_bitCount_0f7a4 cJ6_bitCount_0f7a4 1 (some .int), Cond.constant RJ6 265 (1431655765), Cond.constant RJ6 266 (858993459), Cond.constant RJ6 267 (252645135)]
def wsL_reachOf : List Cond := .codeWith yL_reachOf cL_reachOf 4 (some .int) [(0, 9, 12, 19)] :: ((wsL_reachOf_r1 ++ wsL_reachOf_r2) ++ wsX10 ++ (vx_atS RX1 216 "java/lang/IndexOutOfBoundsException" ["java/lang/RuntimeException", "java/lang/Exception"]).filter goodWord)
def wsL_isInRing_r1 : List Cond := [Cond.classLink RL 19 "java/lang/IndexOutOfBoundsException", Cond.methodLink RL 74 yX1_isInRing, Cond.instanceMethod yX1_isInRing, Cond.selects RX1 yX1_isInRing yX1_isInRing, Cond.initialized RX1, Cond.code yX1_isInRing cX1_isInRing 2 (some .boolean), Cond.methodLink RX1 50 yX1_needHeading, Cond.instanceMethod yX1_needHeading, Cond.selects RX1 yX1_needHeading yX1_needHeading, Cond.code yX1_needHeading cX1_needHeading 2 none, Cond.classLink RX1 212 "java/lang/IndexOutOfBoundsException", Cond.initialized "java/lang/IndexOutOfBoundsException", Cond.methodLink RX1 209 yX1_isHeading, Cond.instanceMethod yX1_isHeading, Cond.selects RX1 yX1_isHeading yX1_isHeading, Cond.code yX1_isHeading cX1_isHeading 2 (some .boolean), Cond.fieldLink RX1 36 "BookIndex" "headingCount" "I", Cond.methodLink RX1 164 yX1_comesBack, Cond.instanceMethod yX1_comesBack, Cond.selects RX1 yX1_comesBack yX1_comesBack, Cond.code yX1_comesBack cX1_comesBack 3 (some .boolean), Cond.methodLink RX1 99 yX1_only, Cond.static yX1_only, Cond.code yX1_only cX1_only 1 (some .int)]
def wsL_isInRing_r2 : List Cond := [Cond.methodLink RX1 158 yX1_oneStepFrom, Cond.instanceMethod yX1_oneStepFrom, Cond.selects RX1 yX1_oneStepFrom yX1_oneStepFrom, Cond.code yX1_oneStepFrom cX1_oneStepFrom 4 (some .int), Cond.fieldLink RX1 20 "BookIndex" "seeAlsos" "[I", Cond.fieldLink RX1 16 "BookIndex" "sees" "[I", Cond.methodLink RX1 235 yX1_allStepsFrom, Cond.instanceMethod yX1_allStepsFrom, Cond.selects RX1 yX1_allStepsFrom yX1_allStepsFrom, Cond.code yX1_allStepsFrom cX1_allStepsFrom 5 (some .int)]
def wsL_isInRing : List Cond := .codeWith yL_isInRing cL_isInRing 4 (some .int) [(0, 16, 19, 19)] :: ((wsL_isInRing_r1 ++ wsL_isInRing_r2) ++ wsX10 ++ (vx_atS RX1 216 "java/lang/IndexOutOfBoundsException" ["java/lang/RuntimeException", "java/lang/Exception"]).filter goodWord)
def wsL_spansWithGap_r1 : List Cond := [Cond.classLink RL 19 "java/lang/IndexOutOfBoundsException", Cond.classLink RL 21 "java/lang/IllegalArgumentException", Cond.methodLink RL 78 yX1_spansWithGap, Cond.instanceMethod yX1_spansWithGap, Cond.selects RX1 yX1_spansWithGap yX1_spansWithGap, Cond.initialized RX1, Cond.code yX1_spansWithGap cX1_spansWithGap 3 (some .int), Cond.classLink RX1 109 "java/lang/IllegalArgumentException", Cond.initialized "java/lang/IllegalArgumentException", Cond.fieldLink RX1 30 "BookIndex" "made" "LBookIndex$Spans;", Cond.methodLink RX1 50 yX1_needHeading, Cond.instanceMethod yX1_needHeading, Cond.selects RX1 yX1_needHeading yX1_needHeading, Cond.code yX1_needHeading cX1_needHeading 2 none, Cond.classLink RX1 212 "java/lang/IndexOutOfBoundsException", Cond.initialized "java/lang/IndexOutOfBoundsException", Cond.methodLink RX1 209 yX1_isHeading, Cond.instanceMethod yX1_isHeading, Cond.selects RX1 yX1_isHeading yX1_isHeading, Cond.code yX1_isHeading cX1_isHeading 2 (some .boolean), Cond.fieldLink RX1 36 "BookIndex" "headingCount" "I", Cond.methodLink RX1 64 yX1_spansAt, Cond.instanceMethod yX1_spansAt, Cond.selects RX1 yX1_spansAt yX1_spansAt]
def wsL_spansWithGap_r2 : List Cond := [Cond.code yX1_spansAt cX1_spansAt 3 (some (.object "BookIndex$Spans")), Cond.fieldLink RX1 11 "BookIndex" "spansByHeading" "[LBookIndex$Spans;", Cond.fieldLink RX1 33 "BookIndex" "noSpans" "LBookIndex$Spans;", Cond.methodLink RX1 169 yX0_becomeBridged, Cond.instanceMethod yX0_becomeBridged, Cond.selects RX0 yX0_becomeBridged yX0_becomeBridged, Cond.initialized RX0, Cond.code yX0_becomeBridged cX0_becomeBridged 4 none, Cond.fieldLink RX0 18 "BookIndex$Spans" "count" "I", Cond.fieldLink RX0 9 "BookIndex$Spans" "firsts" "[I", Cond.fieldLink RX0 15 "BookIndex$Spans" "lasts" "[I", Cond.methodLink RX0 31 yX0_append, Cond.instanceMethod yX0_append, Cond.selects RX0 yX0_append yX0_append, Cond.code yX0_append cX0_append 4 none, Cond.methodLink RX0 22 Lib.Math.max.name, Cond.static Lib.Math.max.name, Cond.initialized "java/lang/Math", Cond.code Lib.Math.max.name Lib.Math.max.code 2 (some .int), Cond.methodLink RX1 82 yX0_count, Cond.instanceMethod yX0_count, Cond.selects RX0 yX0_count yX0_count, Cond.code yX0_count cX0_count 1 (some .int)]
def wsL_spansWithGap : List Cond := .codeWith yL_spansWithGap cL_spansWithGap 5 (some .int) [(0, 10, 13, 19), (0, 10, 17, 21)] :: ((wsL_spansWithGap_r1 ++ wsL_spansWithGap_r2) ++ wsX10 ++ wsX00 ++ (vx_atS RX1 113 "java/lang/IllegalArgumentException" ["java/lang/RuntimeException", "java/lang/Exception"]).filter goodWord ++ (vx_atS RX1 216 "java/lang/IndexOutOfBoundsException" ["java/lang/RuntimeException", "java/lang/Exception"]).filter goodWord)
def wsL_commonPages_r1 : List Cond := [Cond.classLink RL 19 "java/lang/IndexOutOfBoundsException", Cond.methodLink RL 81 yX1_commonPages, Cond.instanceMethod yX1_commonPages, Cond.selects RX1 yX1_commonPages yX1_commonPages, Cond.initialized RX1, Cond.code yX1_commonPages cX1_commonPages 3 (some .int), Cond.methodLink RX1 50 yX1_needHeading, Cond.instanceMethod yX1_needHeading, Cond.selects RX1 yX1_needHeading yX1_needHeading, Cond.code yX1_needHeading cX1_needHeading 2 none, Cond.classLink RX1 212 "java/lang/IndexOutOfBoundsException", Cond.initialized "java/lang/IndexOutOfBoundsException", Cond.methodLink RX1 209 yX1_isHeading, Cond.instanceMethod yX1_isHeading, Cond.selects RX1 yX1_isHeading yX1_isHeading, Cond.code yX1_isHeading cX1_isHeading 2 (some .boolean), Cond.fieldLink RX1 36 "BookIndex" "headingCount" "I", Cond.methodLink RX1 64 yX1_spansAt, Cond.instanceMethod yX1_spansAt, Cond.selects RX1 yX1_spansAt yX1_spansAt, Cond.code yX1_spansAt cX1_spansAt 3 (some (.object "BookIndex$Spans")), Cond.fieldLink RX1 11 "BookIndex" "spansByHeading" "[LBookIndex$Spans;", Cond.fieldLink RX1 33 "BookIndex" "noSpans" "LBookIndex$Spans;", Cond.methodLink RX1 172 yX0_pagesInCommon]
def wsL_commonPages_r2 : List Cond := [Cond.instanceMethod yX0_pagesInCommon, Cond.selects RX0 yX0_pagesInCommon yX0_pagesInCommon, Cond.initialized RX0, Cond.code yX0_pagesInCommon cX0_pagesInCommon 8 (some .int), Cond.fieldLink RX0 18 "BookIndex$Spans" "count" "I", Cond.fieldLink RX0 9 "BookIndex$Spans" "firsts" "[I", Cond.methodLink RX0 22 Lib.Math.max.name, Cond.static Lib.Math.max.name, Cond.initialized "java/lang/Math", Cond.code Lib.Math.max.name Lib.Math.max.code 2 (some .int), Cond.fieldLink RX0 15 "BookIndex$Spans" "lasts" "[I", Cond.methodLink RX0 28 Lib.Math.min.name, Cond.static Lib.Math.min.name, Cond.code Lib.Math.min.name Lib.Math.min.code 2 (some .int)]
def wsL_commonPages : List Cond := .codeWith yL_commonPages cL_commonPages 5 (some .int) [(0, 10, 13, 19)] :: ((wsL_commonPages_r1 ++ wsL_commonPages_r2) ++ wsX10 ++ wsX00 ++ (vx_atS RX1 216 "java/lang/IndexOutOfBoundsException" ["java/lang/RuntimeException", "java/lang/Exception"]).filter goodWord)
def wsL_nearest_r1 : List Cond := [Cond.classLink RL 19 "java/lang/IndexOutOfBoundsException", Cond.methodLink RL 84 yX1_nearest, Cond.instanceMethod yX1_nearest, Cond.selects RX1 yX1_nearest yX1_nearest, Cond.initialized RX1, Cond.code yX1_nearest cX1_nearest 2 (some .int), Cond.methodLink RX1 50 yX1_needHeading, Cond.instanceMethod yX1_needHeading, Cond.selects RX1 yX1_needHeading yX1_needHeading, Cond.code yX1_needHeading cX1_needHeading 2 none, Cond.classLink RX1 212 "java/lang/IndexOutOfBoundsException", Cond.initialized "java/lang/IndexOutOfBoundsException", Cond.methodLink RX1 209 yX1_isHeading, Cond.instanceMethod yX1_isHeading, Cond.selects RX1 yX1_isHeading yX1_isHeading, Cond.code yX1_isHeading cX1_isHeading 2 (some .boolean), Cond.fieldLink RX1 36 "BookIndex" "headingCount" "I", Cond.methodLink RX1 176 yX1_nearestOther, Cond.instanceMethod yX1_nearestOther, Cond.selects RX1 yX1_nearestOther yX1_nearestOther, Cond.code yX1_nearestOther cX1_nearestOther 6 (some .int), Cond.methodLink RX1 64 yX1_spansAt, Cond.instanceMethod yX1_spansAt, Cond.selects RX1 yX1_spansAt yX1_spansAt]
def wsL_nearest_r2 : List Cond := [Cond.code yX1_spansAt cX1_spansAt 3 (some (.object "BookIndex$Spans")), Cond.fieldLink RX1 11 "BookIndex" "spansByHeading" "[LBookIndex$Spans;", Cond.fieldLink RX1 33 "BookIndex" "noSpans" "LBookIndex$Spans;", Cond.methodLink RX1 172 yX0_pagesInCommon, Cond.instanceMethod yX0_pagesInCommon, Cond.selects RX0 yX0_pagesInCommon yX0_pagesInCommon, Cond.initialized RX0, Cond.code yX0_pagesInCommon cX0_pagesInCommon 8 (some .int), Cond.fieldLink RX0 18 "BookIndex$Spans" "count" "I", Cond.fieldLink RX0 9 "BookIndex$Spans" "firsts" "[I", Cond.methodLink RX0 22 Lib.Math.max.name, Cond.static Lib.Math.max.name, Cond.initialized "java/lang/Math", Cond.code Lib.Math.max.name Lib.Math.max.code 2 (some .int), Cond.fieldLink RX0 15 "BookIndex$Spans" "lasts" "[I", Cond.methodLink RX0 28 Lib.Math.min.name, Cond.static Lib.Math.min.name, Cond.code Lib.Math.min.name Lib.Math.min.code 2 (some .int)]
def wsL_nearest : List Cond := .codeWith yL_nearest cL_nearest 4 (some .int) [(0, 9, 12, 19)] :: ((wsL_nearest_r1 ++ wsL_nearest_r2) ++ wsX10 ++ wsX00 ++ (vx_atS RX1 216 "java/lang/IndexOutOfBoundsException" ["java/lang/RuntimeException", "java/lang/Exception"]).filter goodWord)
def wsL_spansTogether_r1 : List Cond := [Cond.classLink RL 19 "java/lang/IndexOutOfBoundsException", Cond.methodLink RL 87 yX1_spansTogether, Cond.instanceMethod yX1_spansTogether, Cond.selects RX1 yX1_spansTogether yX1_spansTogether, Cond.initialized RX1, Cond.code yX1_spansTogether cX1_spansTogether 3 (some .int), Cond.fieldLink RX1 30 "BookIndex" "made" "LBookIndex$Spans;", Cond.methodLink RX1 50 yX1_needHeading, Cond.instanceMethod yX1_needHeading, Cond.selects RX1 yX1_needHeading yX1_needHeading, Cond.code yX1_needHeading cX1_needHeading 2 none, Cond.classLink RX1 212 "java/lang/IndexOutOfBoundsException", Cond.initialized "java/lang/IndexOutOfBoundsException", Cond.methodLink RX1 209 yX1_isHeading, Cond.instanceMethod yX1_isHeading, Cond.selects RX1 yX1_isHeading yX1_isHeading, Cond.code yX1_isHeading cX1_isHeading 2 (some .boolean), Cond.fieldLink RX1 36 "BookIndex" "headingCount" "I", Cond.methodLink RX1 64 yX1_spansAt, Cond.instanceMethod yX1_spansAt, Cond.selects RX1 yX1_spansAt yX1_spansAt, Cond.code yX1_spansAt cX1_spansAt 3 (some (.object "BookIndex$Spans")), Cond.fieldLink RX1 11 "BookIndex" "spansByHeading" "[LBookIndex$Spans;", Cond.fieldLink RX1 33 "BookIndex" "noSpans" "LBookIndex$Spans;"]
def wsL_spansTogether_r2 : List Cond := [Cond.methodLink RX1 71 yX0_becomeUnion, Cond.instanceMethod yX0_becomeUnion, Cond.selects RX0 yX0_becomeUnion yX0_becomeUnion, Cond.initialized RX0, Cond.code yX0_becomeUnion cX0_becomeUnion 7 none, Cond.fieldLink RX0 18 "BookIndex$Spans" "count" "I", Cond.fieldLink RX0 9 "BookIndex$Spans" "firsts" "[I", Cond.methodLink RX0 39 yX0_first, Cond.instanceMethod yX0_first, Cond.selects RX0 yX0_first yX0_first, Cond.code yX0_first cX0_first 2 (some .int), Cond.methodLink RX0 43 yX0_last, Cond.instanceMethod yX0_last, Cond.selects RX0 yX0_last yX0_last, Cond.code yX0_last cX0_last 2 (some .int), Cond.fieldLink RX0 15 "BookIndex$Spans" "lasts" "[I", Cond.methodLink RX0 31 yX0_append, Cond.instanceMethod yX0_append, Cond.selects RX0 yX0_append yX0_append, Cond.code yX0_append cX0_append 4 none, Cond.methodLink RX0 22 Lib.Math.max.name, Cond.static Lib.Math.max.name, Cond.initialized "java/lang/Math", Cond.code Lib.Math.max.name Lib.Math.max.code 2 (some .int)]
def wsL_spansTogether_r3 : List Cond := [Cond.methodLink RX1 82 yX0_count, Cond.instanceMethod yX0_count, Cond.selects RX0 yX0_count yX0_count, Cond.code yX0_count cX0_count 1 (some .int)]
def wsL_spansTogether : List Cond := .codeWith yL_spansTogether cL_spansTogether 5 (some .int) [(0, 10, 13, 19)] :: ((wsL_spansTogether_r1 ++ (wsL_spansTogether_r2 ++ wsL_spansTogether_r3)) ++ wsX10 ++ wsX00 ++ (vx_atS RX1 216 "java/lang/IndexOutOfBoundsException" ["java/lang/RuntimeException", "java/lang/Exception"]).filter goodWord)
def wsL_law0_r1 : List Cond := [Cond.classLink RL 8 RX1, Cond.instantiable RX1 9, Cond.initialized RX1, Cond.classLink RL 91 RX2, Cond.instantiable RX2 6, Cond.initialized RX2, Cond.arrayClass .long, Cond.methodLink RL 90 yX1_init, Cond.instanceMethod yX1_init, Cond.code yX1_init cX1_init 2 none, Cond.methodLink RX1 3 objectInit, Cond.instanceMethod objectInit, Cond.code objectInit ⟨#[0xb1]⟩ 1 none, Cond.classLink RX1 9 RX0, Cond.fieldLink RX1 11 "BookIndex" "spansByHeading" "[LBookIndex$Spans;", Cond.instantiable RX0 3, Cond.initialized RX0, Cond.arrayClass .int, Cond.fieldLink RX1 16 "BookIndex" "sees" "[I", Cond.fieldLink RX1 20 "BookIndex" "seeAlsos" "[I", Cond.fieldLink RX1 23 "BookIndex" "tally" "[I", Cond.fieldLink RX1 26 "BookIndex" "asked" "LBookIndex$Spans;", Cond.fieldLink RX1 30 "BookIndex" "made" "LBookIndex$Spans;", Cond.fieldLink RX1 33 "BookIndex" "noSpans" "LBookIndex$Spans;"]
def wsL_law0_r2 : List Cond := [Cond.fieldLink RX1 36 "BookIndex" "headingCount" "I", Cond.fieldLink RX1 40 "BookIndex" "pageCount" "I", Cond.methodLink RX1 15 yX0_init, Cond.instanceMethod yX0_init, Cond.code yX0_init cX0_init 1 none, Cond.methodLink RX0 3 objectInit, Cond.fieldLink RX0 9 "BookIndex$Spans" "firsts" "[I", Cond.fieldLink RX0 15 "BookIndex$Spans" "lasts" "[I", Cond.fieldLink RX0 18 "BookIndex$Spans" "count" "I", Cond.methodLink RL 93 yX2_init, Cond.instanceMethod yX2_init, Cond.code yX2_init cX2_init 1 none, Cond.methodLink RX2 3 objectInit, Cond.fieldLink RX2 9 "BookIndexModel" "pages" "I", Cond.arrayClass .boolean, Cond.fieldLink RX2 13 "BookIndexModel" "on" "[Z", Cond.fieldLink RX2 17 "BookIndexModel" "see" "[I", Cond.fieldLink RX2 21 "BookIndexModel" "also" "[I", Cond.methodLink RL 94 yL_addHeading, Cond.static yL_addHeading, Cond.initialized RL, Cond.codeWith yL_addHeading cL_addHeading 3 (some .int) [(0, 8, 11, 13)], Cond.classLink RL 13 "java/lang/IllegalStateException", Cond.methodLink RL 7 yX1_addHeading]
def wsL_law0_r3 : List Cond := [Cond.instanceMethod yX1_addHeading, Cond.selects RX1 yX1_addHeading yX1_addHeading, Cond.code yX1_addHeading cX1_addHeading 2 (some .int), Cond.classLink RX1 43 "java/lang/IllegalStateException", Cond.initialized "java/lang/IllegalStateException", Cond.methodLink RL 99 yX2_addHeading, Cond.instanceMethod yX2_addHeading, Cond.selects RX2 yX2_addHeading yX2_addHeading, Cond.code yX2_addHeading cX2_addHeading 1 (some .int), Cond.fieldLink RX2 24 "BookIndexModel" "thrown" "I", Cond.fieldLink RX2 27 "BookIndexModel" "headings" "I", Cond.methodLink RX2 66 yX2_no, Cond.instanceMethod yX2_no, Cond.selects RX2 yX2_no yX2_no, Cond.code yX2_no cX2_no 2 (some .int), Cond.methodLink RL 100 yX2_thrown, Cond.instanceMethod yX2_thrown, Cond.selects RX2 yX2_thrown yX2_thrown, Cond.code yX2_thrown cX2_thrown 1 (some .int), Cond.methodLink RL 103 yL_addPages, Cond.static yL_addPages, Cond.codeWith yL_addPages cL_addPages 6 (some .int) [(0, 12, 15, 19), (0, 12, 19, 21), (0, 12, 23, 13)], Cond.classLink RL 19 "java/lang/IndexOutOfBoundsException", Cond.classLink RL 21 "java/lang/IllegalArgumentException"]
def wsL_law0_r4 : List Cond := [Cond.methodLink RL 15 yX1_addPages, Cond.instanceMethod yX1_addPages, Cond.selects RX1 yX1_addPages yX1_addPages, Cond.code yX1_addPages cX1_addPages 5 (some .int), Cond.methodLink RX1 50 yX1_needHeading, Cond.instanceMethod yX1_needHeading, Cond.selects RX1 yX1_needHeading yX1_needHeading, Cond.code yX1_needHeading cX1_needHeading 2 none, Cond.classLink RX1 212 "java/lang/IndexOutOfBoundsException", Cond.initialized "java/lang/IndexOutOfBoundsException", Cond.methodLink RX1 209 yX1_isHeading, Cond.instanceMethod yX1_isHeading, Cond.selects RX1 yX1_isHeading yX1_isHeading, Cond.code yX1_isHeading cX1_isHeading 2 (some .boolean), Cond.methodLink RX1 54 yX1_needPages, Cond.instanceMethod yX1_needPages, Cond.selects RX1 yX1_needPages yX1_needPages, Cond.code yX1_needPages cX1_needPages 3 none, Cond.classLink RX1 109 "java/lang/IllegalArgumentException", Cond.initialized "java/lang/IllegalArgumentException", Cond.methodLink RX1 58 yX1_seeAt, Cond.instanceMethod yX1_seeAt, Cond.selects RX1 yX1_seeAt yX1_seeAt, Cond.code yX1_seeAt cX1_seeAt 2 (some .int)]
def wsL_law0_r5 : List Cond := [Cond.methodLink RX1 64 yX1_spansAt, Cond.instanceMethod yX1_spansAt, Cond.selects RX1 yX1_spansAt yX1_spansAt, Cond.code yX1_spansAt cX1_spansAt 3 (some (.object "BookIndex$Spans")), Cond.methodLink RX1 68 yX0_becomeOne, Cond.instanceMethod yX0_becomeOne, Cond.selects RX0 yX0_becomeOne yX0_becomeOne, Cond.code yX0_becomeOne cX0_becomeOne 3 none, Cond.methodLink RX0 31 yX0_append, Cond.instanceMethod yX0_append, Cond.selects RX0 yX0_append yX0_append, Cond.code yX0_append cX0_append 4 none, Cond.methodLink RX0 22 Lib.Math.max.name, Cond.static Lib.Math.max.name, Cond.initialized "java/lang/Math", Cond.code Lib.Math.max.name Lib.Math.max.code 2 (some .int), Cond.methodLink RX1 71 yX0_becomeUnion, Cond.instanceMethod yX0_becomeUnion, Cond.selects RX0 yX0_becomeUnion yX0_becomeUnion, Cond.code yX0_becomeUnion cX0_becomeUnion 7 none, Cond.methodLink RX0 39 yX0_first, Cond.instanceMethod yX0_first, Cond.selects RX0 yX0_first yX0_first, Cond.code yX0_first cX0_first 2 (some .int)]
def wsL_law0_r6 : List Cond := [Cond.methodLink RX0 43 yX0_last, Cond.instanceMethod yX0_last, Cond.selects RX0 yX0_last yX0_last, Cond.code yX0_last cX0_last 2 (some .int), Cond.methodLink RX1 75 yX1_needRoomForMade, Cond.instanceMethod yX1_needRoomForMade, Cond.selects RX1 yX1_needRoomForMade yX1_needRoomForMade, Cond.code yX1_needRoomForMade cX1_needRoomForMade 1 none, Cond.methodLink RX1 82 yX0_count, Cond.instanceMethod yX0_count, Cond.selects RX0 yX0_count yX0_count, Cond.code yX0_count cX0_count 1 (some .int), Cond.methodLink RX1 78 yX0_becomeSame, Cond.instanceMethod yX0_becomeSame, Cond.selects RX0 yX0_becomeSame yX0_becomeSame, Cond.code yX0_becomeSame cX0_becomeSame 2 none, Cond.methodLink RX0 35 yX0_becomeBridged, Cond.instanceMethod yX0_becomeBridged, Cond.selects RX0 yX0_becomeBridged yX0_becomeBridged, Cond.code yX0_becomeBridged cX0_becomeBridged 4 none, Cond.methodLink RL 106 yX2_addPages, Cond.instanceMethod yX2_addPages, Cond.selects RX2 yX2_addPages yX2_addPages, Cond.code yX2_addPages cX2_addPages 4 (some .int)]
def wsL_law0_r7 : List Cond := [Cond.methodLink RX2 73 yX2_isHeading, Cond.instanceMethod yX2_isHeading, Cond.selects RX2 yX2_isHeading yX2_isHeading, Cond.code yX2_isHeading cX2_isHeading 2 (some .boolean), Cond.methodLink RX2 30 yX2_isIn, Cond.static yX2_isIn, Cond.code yX2_isIn cX2_isIn 3 (some .boolean), Cond.methodLink RX2 77 yX2_arePages, Cond.instanceMethod yX2_arePages, Cond.selects RX2 yX2_arePages yX2_arePages, Cond.code yX2_arePages cX2_arePages 3 (some .boolean), Cond.methodLink RX2 80 yX2_spansWith, Cond.instanceMethod yX2_spansWith, Cond.selects RX2 yX2_spansWith yX2_spansWith, Cond.code yX2_spansWith cX2_spansWith 9 (some .int), Cond.methodLink RX2 34 yX2_has, Cond.instanceMethod yX2_has, Cond.selects RX2 yX2_has yX2_has, Cond.code yX2_has cX2_has 3 (some .boolean), Cond.methodLink RX2 84 yX2_put, Cond.instanceMethod yX2_put, Cond.selects RX2 yX2_put yX2_put, Cond.code yX2_put cX2_put 6 none, Cond.methodLink RX2 69 yX2_let]
def wsL_law0_r8 : List Cond := [Cond.instanceMethod yX2_let, Cond.selects RX2 yX2_let yX2_let, Cond.code yX2_let cX2_let 4 none, Cond.methodLink RX2 88 yX2_spans, Cond.instanceMethod yX2_spans, Cond.selects RX2 yX2_spans yX2_spans, Cond.code yX2_spans cX2_spans 7 (some .int), Cond.methodLink RL 107 yL_takePages, Cond.static yL_takePages, Cond.codeWith yL_takePages cL_takePages 6 (some .int) [(0, 12, 15, 19), (0, 12, 19, 21), (0, 12, 23, 13)], Cond.methodLink RL 23 yX1_takePages, Cond.instanceMethod yX1_takePages, Cond.selects RX1 yX1_takePages yX1_takePages, Cond.code yX1_takePages cX1_takePages 6 (some .int), Cond.methodLink RX1 86 yX0_becomeRest, Cond.instanceMethod yX0_becomeRest, Cond.selects RX0 yX0_becomeRest yX0_becomeRest, Cond.code yX0_becomeRest cX0_becomeRest 5 none, Cond.methodLink RX0 28 Lib.Math.min.name, Cond.static Lib.Math.min.name, Cond.code Lib.Math.min.name Lib.Math.min.code 2 (some .int), Cond.methodLink RX0 46 yX0_appendUnlessEmpty, Cond.instanceMethod yX0_appendUnlessEmpty, Cond.selects RX0 yX0_appendUnlessEmpty yX0_appendUnlessEmpty]
def wsL_law0_r9 : List Cond := [Cond.code yX0_appendUnlessEmpty cX0_appendUnlessEmpty 3 none, Cond.methodLink RX1 90 yX0_pages, Cond.instanceMethod yX0_pages, Cond.selects RX0 yX0_pages yX0_pages, Cond.code yX0_pages cX0_pages 3 (some .int), Cond.methodLink RL 109 yX2_takePages, Cond.instanceMethod yX2_takePages, Cond.selects RX2 yX2_takePages yX2_takePages, Cond.code yX2_takePages cX2_takePages 5 (some .int), Cond.methodLink RX2 52 yX2_many, Cond.instanceMethod yX2_many, Cond.selects RX2 yX2_many yX2_many, Cond.code yX2_many cX2_many 4 (some .int), Cond.methodLink RL 110 yL_setSee, Cond.static yL_setSee, Cond.codeWith yL_setSee cL_setSee 5 (some .int) [(0, 10, 13, 19), (0, 10, 17, 21), (0, 10, 21, 13)], Cond.methodLink RL 26 yX1_setSee, Cond.instanceMethod yX1_setSee, Cond.selects RX1 yX1_setSee yX1_setSee, Cond.code yX1_setSee cX1_setSee 4 (some .int), Cond.methodLink RX1 93 yX1_needTwo, Cond.instanceMethod yX1_needTwo, Cond.selects RX1 yX1_needTwo yX1_needTwo, Cond.code yX1_needTwo cX1_needTwo 3 none]
def wsL_law0_r10 : List Cond := [Cond.methodLink RX1 96 yX1_needNoPages, Cond.instanceMethod yX1_needNoPages, Cond.selects RX1 yX1_needNoPages yX1_needNoPages, Cond.code yX1_needNoPages cX1_needNoPages 2 none, Cond.methodLink RL 113 yX2_setSee, Cond.instanceMethod yX2_setSee, Cond.selects RX2 yX2_setSee yX2_setSee, Cond.code yX2_setSee cX2_setSee 4 (some .int), Cond.methodLink RL 114 yL_turnSeeAlso, Cond.static yL_turnSeeAlso, Cond.codeWith yL_turnSeeAlso cL_turnSeeAlso 5 (some .int) [(0, 10, 13, 19), (0, 10, 17, 21), (0, 10, 21, 13)], Cond.methodLink RL 30 yX1_turnSeeAlso, Cond.instanceMethod yX1_turnSeeAlso, Cond.selects RX1 yX1_turnSeeAlso yX1_turnSeeAlso, Cond.code yX1_turnSeeAlso cX1_turnSeeAlso 4 (some .int), Cond.methodLink RX1 99 yX1_only, Cond.static yX1_only, Cond.code yX1_only cX1_only 1 (some .int), Cond.methodLink RX1 102 yJ6_bitCount_0f7a4, Cond.static yJ6_bitCount_0f7a4, Cond.initialized RJ6, Cond.code yJ6_bitCount_0f7a4 cJ6_bitCount_0f7a4 1 (some .int), Cond.constant RJ6 265 (1431655765), Cond.constant RJ6 266 (858993459)]
def wsL_law0_r11 : List Cond := [Cond.constant RJ6 267 (252645135), Cond.methodLink RL 116 yX2_turnSeeAlso, Cond.instanceMethod yX2_turnSeeAlso, Cond.selects RX2 yX2_turnSeeAlso yX2_turnSeeAlso, Cond.code yX2_turnSeeAlso cX2_turnSeeAlso 4 (some .int), Cond.methodLink RX2 61 yJ6_bitCount_0f7a4, Cond.methodLink RL 117 yL_putIn, Cond.static yL_putIn, Cond.codeWith yL_putIn cL_putIn 5 (some .int) [(0, 10, 13, 21), (0, 10, 17, 13)], Cond.methodLink RL 33 yX1_putIn, Cond.instanceMethod yX1_putIn, Cond.selects RX1 yX1_putIn yX1_putIn, Cond.code yX1_putIn cX1_putIn 4 (some .int), Cond.methodLink RX1 118 yX0_moveOn, Cond.instanceMethod yX0_moveOn, Cond.selects RX0 yX0_moveOn yX0_moveOn, Cond.code yX0_moveOn cX0_moveOn 4 none, Cond.methodLink RL 119 yX2_putIn, Cond.instanceMethod yX2_putIn, Cond.selects RX2 yX2_putIn yX2_putIn, Cond.code yX2_putIn cX2_putIn 6 (some .int), Cond.methodLink RL 120 yL_takeOut, Cond.static yL_takeOut, Cond.codeWith yL_takeOut cL_takeOut 4 (some .int) [(0, 9, 12, 21), (0, 9, 15, 13)]]
def wsL_law0_r12 : List Cond := [Cond.methodLink RL 36 yX1_takeOut, Cond.instanceMethod yX1_takeOut, Cond.selects RX1 yX1_takeOut yX1_takeOut, Cond.code yX1_takeOut cX1_takeOut 5 (some .int), Cond.methodLink RX1 121 yX1_needPage, Cond.instanceMethod yX1_needPage, Cond.selects RX1 yX1_needPage yX1_needPage, Cond.code yX1_needPage cX1_needPage 2 none, Cond.methodLink RX1 126 yX1_countHeadingsOn, Cond.instanceMethod yX1_countHeadingsOn, Cond.selects RX1 yX1_countHeadingsOn yX1_countHeadingsOn, Cond.code yX1_countHeadingsOn cX1_countHeadingsOn 4 (some .int), Cond.methodLink RX1 145 yX0_has, Cond.instanceMethod yX0_has, Cond.selects RX0 yX0_has yX0_has, Cond.code yX0_has cX0_has 3 (some .boolean), Cond.methodLink RX1 129 yX0_becomeWithoutPageOfBook, Cond.instanceMethod yX0_becomeWithoutPageOfBook, Cond.selects RX0 yX0_becomeWithoutPageOfBook yX0_becomeWithoutPageOfBook, Cond.code yX0_becomeWithoutPageOfBook cX0_becomeWithoutPageOfBook 6 none, Cond.methodLink RL 123 yX2_takeOut, Cond.instanceMethod yX2_takeOut, Cond.selects RX2 yX2_takeOut yX2_takeOut, Cond.code yX2_takeOut cX2_takeOut 5 (some .int)]
def wsL_law0_r13 : List Cond := [Cond.methodLink RX2 92 yX2_isPage, Cond.instanceMethod yX2_isPage, Cond.selects RX2 yX2_isPage yX2_isPage, Cond.code yX2_isPage cX2_isPage 2 (some .boolean), Cond.methodLink RX2 45 yX2_onPage, Cond.instanceMethod yX2_onPage, Cond.selects RX2 yX2_onPage yX2_onPage, Cond.code yX2_onPage cX2_onPage 4 (some .int), Cond.methodLink RL 124 yX1_bookPages, Cond.instanceMethod yX1_bookPages, Cond.selects RX1 yX1_bookPages yX1_bookPages, Cond.code yX1_bookPages cX1_bookPages 1 (some .int), Cond.methodLink RL 127 yX2_bookPages, Cond.instanceMethod yX2_bookPages, Cond.selects RX2 yX2_bookPages yX2_bookPages, Cond.code yX2_bookPages cX2_bookPages 1 (some .int), Cond.methodLink RX2 95 yX2_ok, Cond.instanceMethod yX2_ok, Cond.selects RX2 yX2_ok yX2_ok, Cond.code yX2_ok cX2_ok 2 (some .int), Cond.methodLink RL 128 yX1_headings, Cond.instanceMethod yX1_headings, Cond.selects RX1 yX1_headings yX1_headings, Cond.code yX1_headings cX1_headings 1 (some .int)]
def wsL_law0_r14 : List Cond := [Cond.methodLink RL 131 yX2_headings, Cond.instanceMethod yX2_headings, Cond.selects RX2 yX2_headings yX2_headings, Cond.code yX2_headings cX2_headings 1 (some .int), Cond.methodLink RL 132 yL_spansOf, Cond.static yL_spansOf, Cond.codeWith yL_spansOf cL_spansOf 4 (some .int) [(0, 9, 12, 19)], Cond.methodLink RL 40 yX1_spansOf, Cond.instanceMethod yX1_spansOf, Cond.selects RX1 yX1_spansOf yX1_spansOf, Cond.code yX1_spansOf cX1_spansOf 2 (some .int), Cond.methodLink RL 134 yX2_spansOf, Cond.instanceMethod yX2_spansOf, Cond.selects RX2 yX2_spansOf yX2_spansOf, Cond.code yX2_spansOf cX2_spansOf 2 (some .int), Cond.methodLink RL 135 yL_startOf, Cond.static yL_startOf, Cond.codeWith yL_startOf cL_startOf 5 (some .int) [(0, 10, 13, 19)], Cond.methodLink RL 43 yX1_startOf, Cond.instanceMethod yX1_startOf, Cond.selects RX1 yX1_startOf yX1_startOf, Cond.code yX1_startOf cX1_startOf 3 (some .int), Cond.methodLink RX1 133 yX1_needSpan, Cond.instanceMethod yX1_needSpan]
def wsL_law0_r15 : List Cond := [Cond.selects RX1 yX1_needSpan yX1_needSpan, Cond.code yX1_needSpan cX1_needSpan 3 none, Cond.methodLink RX1 136 yX0_first, Cond.methodLink RL 137 yX2_startOf, Cond.instanceMethod yX2_startOf, Cond.selects RX2 yX2_startOf yX2_startOf, Cond.code yX2_startOf cX2_startOf 3 (some .int), Cond.methodLink RX2 98 yX2_isSpan, Cond.instanceMethod yX2_isSpan, Cond.selects RX2 yX2_isSpan yX2_isSpan, Cond.code yX2_isSpan cX2_isSpan 3 (some .boolean), Cond.methodLink RX2 38 yX2_begins, Cond.instanceMethod yX2_begins, Cond.selects RX2 yX2_begins yX2_begins, Cond.code yX2_begins cX2_begins 5 (some .int), Cond.methodLink RL 138 yL_endOf, Cond.static yL_endOf, Cond.codeWith yL_endOf cL_endOf 5 (some .int) [(0, 10, 13, 19)], Cond.methodLink RL 46 yX1_endOf, Cond.instanceMethod yX1_endOf, Cond.selects RX1 yX1_endOf yX1_endOf, Cond.code yX1_endOf cX1_endOf 3 (some .int), Cond.methodLink RX1 139 yX0_last, Cond.methodLink RL 140 yX2_endOf]
def wsL_law0_r16 : List Cond := [Cond.instanceMethod yX2_endOf, Cond.selects RX2 yX2_endOf yX2_endOf, Cond.code yX2_endOf cX2_endOf 3 (some .int), Cond.methodLink RX2 101 yX2_ends, Cond.instanceMethod yX2_ends, Cond.selects RX2 yX2_ends yX2_ends, Cond.code yX2_ends cX2_ends 4 (some .int), Cond.methodLink RL 141 yL_pagesOf, Cond.static yL_pagesOf, Cond.codeWith yL_pagesOf cL_pagesOf 4 (some .int) [(0, 9, 12, 19)], Cond.methodLink RL 49 yX1_pagesOf, Cond.instanceMethod yX1_pagesOf, Cond.selects RX1 yX1_pagesOf yX1_pagesOf, Cond.code yX1_pagesOf cX1_pagesOf 2 (some .int), Cond.methodLink RL 143 yX2_pagesOf, Cond.instanceMethod yX2_pagesOf, Cond.selects RX2 yX2_pagesOf yX2_pagesOf, Cond.code yX2_pagesOf cX2_pagesOf 2 (some .int), Cond.methodLink RL 144 yL_seeOf, Cond.static yL_seeOf, Cond.codeWith yL_seeOf cL_seeOf 4 (some .int) [(0, 9, 12, 19)], Cond.methodLink RL 52 yX1_seeOf, Cond.instanceMethod yX1_seeOf, Cond.selects RX1 yX1_seeOf yX1_seeOf]
def wsL_law0_r17 : List Cond := [Cond.code yX1_seeOf cX1_seeOf 2 (some .int), Cond.methodLink RL 146 yX2_seeOf, Cond.instanceMethod yX2_seeOf, Cond.selects RX2 yX2_seeOf yX2_seeOf, Cond.code yX2_seeOf cX2_seeOf 2 (some .int), Cond.methodLink RL 147 yL_seeAlsosOf, Cond.static yL_seeAlsosOf, Cond.codeWith yL_seeAlsosOf cL_seeAlsosOf 4 (some .int) [(0, 9, 12, 19)], Cond.methodLink RL 55 yX1_seeAlsosOf, Cond.instanceMethod yX1_seeAlsosOf, Cond.selects RX1 yX1_seeAlsosOf yX1_seeAlsosOf, Cond.code yX1_seeAlsosOf cX1_seeAlsosOf 2 (some .int), Cond.methodLink RX1 142 yX1_countSeeAlsos, Cond.instanceMethod yX1_countSeeAlsos, Cond.selects RX1 yX1_countSeeAlsos yX1_countSeeAlsos, Cond.code yX1_countSeeAlsos cX1_countSeeAlsos 2 (some .int), Cond.methodLink RL 149 yX2_seeAlsosOf, Cond.instanceMethod yX2_seeAlsosOf, Cond.selects RX2 yX2_seeAlsosOf yX2_seeAlsosOf, Cond.code yX2_seeAlsosOf cX2_seeAlsosOf 2 (some .int), Cond.methodLink RL 150 yL_isOn, Cond.static yL_isOn, Cond.codeWith yL_isOn cL_isOn 5 (some .int) [(0, 17, 20, 19), (0, 17, 24, 21)], Cond.methodLink RL 58 yX1_isOn]
def wsL_law0_r18 : List Cond := [Cond.instanceMethod yX1_isOn, Cond.selects RX1 yX1_isOn yX1_isOn, Cond.code yX1_isOn cX1_isOn 3 (some .boolean), Cond.methodLink RL 152 yX2_isOn, Cond.instanceMethod yX2_isOn, Cond.selects RX2 yX2_isOn yX2_isOn, Cond.code yX2_isOn cX2_isOn 3 (some .boolean), Cond.methodLink RX2 104 yX2_isNot, Cond.instanceMethod yX2_isNot, Cond.selects RX2 yX2_isNot yX2_isNot, Cond.code yX2_isNot cX2_isNot 2 (some .boolean), Cond.methodLink RL 153 yL_headingsOn, Cond.static yL_headingsOn, Cond.codeWith yL_headingsOn cL_headingsOn 4 (some .int) [(0, 9, 12, 21)], Cond.methodLink RL 62 yX1_headingsOn, Cond.instanceMethod yX1_headingsOn, Cond.selects RX1 yX1_headingsOn yX1_headingsOn, Cond.code yX1_headingsOn cX1_headingsOn 2 (some .int), Cond.methodLink RL 155 yX2_headingsOn, Cond.instanceMethod yX2_headingsOn, Cond.selects RX2 yX2_headingsOn yX2_headingsOn, Cond.code yX2_headingsOn cX2_headingsOn 2 (some .int), Cond.methodLink RL 156 yX1_barePages, Cond.instanceMethod yX1_barePages]
def wsL_law0_r19 : List Cond := [Cond.selects RX1 yX1_barePages yX1_barePages, Cond.code yX1_barePages cX1_barePages 3 (some .int), Cond.methodLink RX1 149 yX1_tallyHeadingsByPage, Cond.instanceMethod yX1_tallyHeadingsByPage, Cond.selects RX1 yX1_tallyHeadingsByPage yX1_tallyHeadingsByPage, Cond.code yX1_tallyHeadingsByPage cX1_tallyHeadingsByPage 2 none, Cond.methodLink RX1 229 yX1_tallyEnds, Cond.instanceMethod yX1_tallyEnds, Cond.selects RX1 yX1_tallyEnds yX1_tallyEnds, Cond.code yX1_tallyEnds cX1_tallyEnds 3 none, Cond.methodLink RX1 232 yX1_tallyAt, Cond.instanceMethod yX1_tallyAt, Cond.selects RX1 yX1_tallyAt yX1_tallyAt, Cond.code yX1_tallyAt cX1_tallyAt 3 none, Cond.methodLink RL 159 yX2_barePages, Cond.instanceMethod yX2_barePages, Cond.selects RX2 yX2_barePages yX2_barePages, Cond.code yX2_barePages cX2_barePages 1 (some .int), Cond.methodLink RX2 107 yX2_bare, Cond.instanceMethod yX2_bare, Cond.selects RX2 yX2_bare yX2_bare, Cond.code yX2_bare cX2_bare 3 (some .int), Cond.methodLink RL 160 yX1_fullestPage, Cond.instanceMethod yX1_fullestPage]
def wsL_law0_r20 : List Cond := [Cond.selects RX1 yX1_fullestPage yX1_fullestPage, Cond.code yX1_fullestPage cX1_fullestPage 3 (some .int), Cond.methodLink RL 163 yX2_fullestPage, Cond.instanceMethod yX2_fullestPage, Cond.selects RX2 yX2_fullestPage yX2_fullestPage, Cond.code yX2_fullestPage cX2_fullestPage 1 (some .int), Cond.methodLink RX2 111 yX2_fullest, Cond.instanceMethod yX2_fullest, Cond.selects RX2 yX2_fullest yX2_fullest, Cond.code yX2_fullest cX2_fullest 3 (some .int), Cond.methodLink RL 164 yL_leadsTo, Cond.static yL_leadsTo, Cond.codeWith yL_leadsTo cL_leadsTo 4 (some .int) [(0, 9, 12, 19)], Cond.methodLink RL 65 yX1_leadsTo, Cond.instanceMethod yX1_leadsTo, Cond.selects RX1 yX1_leadsTo yX1_leadsTo, Cond.code yX1_leadsTo cX1_leadsTo 2 (some .int), Cond.methodLink RX1 152 yX1_endOfSees, Cond.instanceMethod yX1_endOfSees, Cond.selects RX1 yX1_endOfSees yX1_endOfSees, Cond.code yX1_endOfSees cX1_endOfSees 5 (some .int), Cond.methodLink RL 166 yX2_leadsTo, Cond.instanceMethod yX2_leadsTo, Cond.selects RX2 yX2_leadsTo yX2_leadsTo]
def wsL_law0_r21 : List Cond := [Cond.code yX2_leadsTo cX2_leadsTo 2 (some .int), Cond.methodLink RX2 49 yX2_end, Cond.instanceMethod yX2_end, Cond.selects RX2 yX2_end yX2_end, Cond.code yX2_end cX2_end 4 (some .int), Cond.methodLink RL 167 yX1_vainSees, Cond.instanceMethod yX1_vainSees, Cond.selects RX1 yX1_vainSees yX1_vainSees, Cond.code yX1_vainSees cX1_vainSees 3 (some .int), Cond.methodLink RX1 155 yX1_isVainEnd, Cond.instanceMethod yX1_isVainEnd, Cond.selects RX1 yX1_isVainEnd yX1_isVainEnd, Cond.code yX1_isVainEnd cX1_isVainEnd 2 (some .boolean), Cond.methodLink RL 170 yX2_vainSees, Cond.instanceMethod yX2_vainSees, Cond.selects RX2 yX2_vainSees yX2_vainSees, Cond.code yX2_vainSees cX2_vainSees 1 (some .int), Cond.methodLink RX2 114 yX2_vain, Cond.instanceMethod yX2_vain, Cond.selects RX2 yX2_vain yX2_vain, Cond.code yX2_vain cX2_vain 3 (some .int), Cond.methodLink RL 171 yL_steps, Cond.static yL_steps, Cond.codeWith yL_steps cL_steps 5 (some .int) [(0, 10, 13, 19)]]
def wsL_law0_r22 : List Cond := [Cond.methodLink RL 68 yX1_steps, Cond.instanceMethod yX1_steps, Cond.selects RX1 yX1_steps yX1_steps, Cond.code yX1_steps cX1_steps 5 (some .int), Cond.methodLink RX1 158 yX1_oneStepFrom, Cond.instanceMethod yX1_oneStepFrom, Cond.selects RX1 yX1_oneStepFrom yX1_oneStepFrom, Cond.code yX1_oneStepFrom cX1_oneStepFrom 4 (some .int), Cond.methodLink RL 173 yX2_steps, Cond.instanceMethod yX2_steps, Cond.selects RX2 yX2_steps yX2_steps, Cond.code yX2_steps cX2_steps 3 (some .int), Cond.methodLink RX2 117 yX2_far, Cond.instanceMethod yX2_far, Cond.selects RX2 yX2_far yX2_far, Cond.code yX2_far cX2_far 6 (some .int), Cond.methodLink RX2 55 yX2_step, Cond.instanceMethod yX2_step, Cond.selects RX2 yX2_step yX2_step, Cond.code yX2_step cX2_step 4 (some .int), Cond.methodLink RL 174 yL_reachOf, Cond.static yL_reachOf, Cond.codeWith yL_reachOf cL_reachOf 4 (some .int) [(0, 9, 12, 19)], Cond.methodLink RL 71 yX1_reachOf]
def wsL_law0_r23 : List Cond := [Cond.instanceMethod yX1_reachOf, Cond.selects RX1 yX1_reachOf yX1_reachOf, Cond.code yX1_reachOf cX1_reachOf 2 (some .int), Cond.methodLink RX1 161 yX1_countReached, Cond.instanceMethod yX1_countReached, Cond.selects RX1 yX1_countReached yX1_countReached, Cond.code yX1_countReached cX1_countReached 2 (some .int), Cond.methodLink RX1 235 yX1_allStepsFrom, Cond.instanceMethod yX1_allStepsFrom, Cond.selects RX1 yX1_allStepsFrom yX1_allStepsFrom, Cond.code yX1_allStepsFrom cX1_allStepsFrom 5 (some .int), Cond.methodLink RL 176 yX2_reachOf, Cond.instanceMethod yX2_reachOf, Cond.selects RX2 yX2_reachOf yX2_reachOf, Cond.code yX2_reachOf cX2_reachOf 2 (some .int), Cond.methodLink RX2 58 yX2_all, Cond.instanceMethod yX2_all, Cond.selects RX2 yX2_all yX2_all, Cond.code yX2_all cX2_all 3 (some .int), Cond.methodLink RL 177 yL_isInRing, Cond.static yL_isInRing, Cond.codeWith yL_isInRing cL_isInRing 4 (some .int) [(0, 16, 19, 19)], Cond.methodLink RL 74 yX1_isInRing, Cond.instanceMethod yX1_isInRing]
def wsL_law0_r24 : List Cond := [Cond.selects RX1 yX1_isInRing yX1_isInRing, Cond.code yX1_isInRing cX1_isInRing 2 (some .boolean), Cond.methodLink RX1 164 yX1_comesBack, Cond.instanceMethod yX1_comesBack, Cond.selects RX1 yX1_comesBack yX1_comesBack, Cond.code yX1_comesBack cX1_comesBack 3 (some .boolean), Cond.methodLink RL 179 yX2_isInRing, Cond.instanceMethod yX2_isInRing, Cond.selects RX2 yX2_isInRing yX2_isInRing, Cond.code yX2_isInRing cX2_isInRing 2 (some .boolean), Cond.methodLink RX2 120 yX2_rings, Cond.instanceMethod yX2_rings, Cond.selects RX2 yX2_rings yX2_rings, Cond.code yX2_rings cX2_rings 2 (some .boolean), Cond.methodLink RL 180 yX1_unled, Cond.instanceMethod yX1_unled, Cond.selects RX1 yX1_unled yX1_unled, Cond.code yX1_unled cX1_unled 2 (some .int), Cond.methodLink RL 183 yX2_unled, Cond.instanceMethod yX2_unled, Cond.selects RX2 yX2_unled yX2_unled, Cond.code yX2_unled cX2_unled 1 (some .int), Cond.methodLink RX2 123 yX2_alone, Cond.instanceMethod yX2_alone]
def wsL_law0_r25 : List Cond := [Cond.selects RX2 yX2_alone yX2_alone, Cond.code yX2_alone cX2_alone 3 (some .int), Cond.methodLink RL 184 yL_spansWithGap, Cond.static yL_spansWithGap, Cond.codeWith yL_spansWithGap cL_spansWithGap 5 (some .int) [(0, 10, 13, 19), (0, 10, 17, 21)], Cond.methodLink RL 78 yX1_spansWithGap, Cond.instanceMethod yX1_spansWithGap, Cond.selects RX1 yX1_spansWithGap yX1_spansWithGap, Cond.code yX1_spansWithGap cX1_spansWithGap 3 (some .int), Cond.methodLink RX1 169 yX0_becomeBridged, Cond.methodLink RL 186 yX2_spansWithGap, Cond.instanceMethod yX2_spansWithGap, Cond.selects RX2 yX2_spansWithGap yX2_spansWithGap, Cond.code yX2_spansWithGap cX2_spansWithGap 3 (some .int), Cond.methodLink RL 187 yL_commonPages, Cond.static yL_commonPages, Cond.codeWith yL_commonPages cL_commonPages 5 (some .int) [(0, 10, 13, 19)], Cond.methodLink RL 81 yX1_commonPages, Cond.instanceMethod yX1_commonPages, Cond.selects RX1 yX1_commonPages yX1_commonPages, Cond.code yX1_commonPages cX1_commonPages 3 (some .int), Cond.methodLink RX1 172 yX0_pagesInCommon, Cond.instanceMethod yX0_pagesInCommon, Cond.selects RX0 yX0_pagesInCommon yX0_pagesInCommon]
def wsL_law0_r26 : List Cond := [Cond.code yX0_pagesInCommon cX0_pagesInCommon 8 (some .int), Cond.methodLink RL 189 yX2_commonPages, Cond.instanceMethod yX2_commonPages, Cond.selects RX2 yX2_commonPages yX2_commonPages, Cond.code yX2_commonPages cX2_commonPages 3 (some .int), Cond.methodLink RX2 42 yX2_common, Cond.instanceMethod yX2_common, Cond.selects RX2 yX2_common yX2_common, Cond.code yX2_common cX2_common 5 (some .int), Cond.methodLink RL 190 yL_nearest, Cond.static yL_nearest, Cond.codeWith yL_nearest cL_nearest 4 (some .int) [(0, 9, 12, 19)], Cond.methodLink RL 84 yX1_nearest, Cond.instanceMethod yX1_nearest, Cond.selects RX1 yX1_nearest yX1_nearest, Cond.code yX1_nearest cX1_nearest 2 (some .int), Cond.methodLink RX1 176 yX1_nearestOther, Cond.instanceMethod yX1_nearestOther, Cond.selects RX1 yX1_nearestOther yX1_nearestOther, Cond.code yX1_nearestOther cX1_nearestOther 6 (some .int), Cond.methodLink RL 192 yX2_nearest, Cond.instanceMethod yX2_nearest, Cond.selects RX2 yX2_nearest yX2_nearest, Cond.code yX2_nearest cX2_nearest 2 (some .int)]
def wsL_law0_r27 : List Cond := [Cond.methodLink RX2 126 yX2_near, Cond.instanceMethod yX2_near, Cond.selects RX2 yX2_near yX2_near, Cond.code yX2_near cX2_near 6 (some .int), Cond.methodLink RL 193 yL_spansTogether, Cond.static yL_spansTogether, Cond.codeWith yL_spansTogether cL_spansTogether 5 (some .int) [(0, 10, 13, 19)], Cond.methodLink RL 87 yX1_spansTogether, Cond.instanceMethod yX1_spansTogether, Cond.selects RX1 yX1_spansTogether yX1_spansTogether, Cond.code yX1_spansTogether cX1_spansTogether 3 (some .int), Cond.methodLink RL 195 yX2_spansTogether, Cond.instanceMethod yX2_spansTogether, Cond.selects RX2 yX2_spansTogether yX2_spansTogether, Cond.code yX2_spansTogether cX2_spansTogether 3 (some .int), Cond.methodLink RL 196 yX1_meanPages, Cond.instanceMethod yX1_meanPages, Cond.selects RX1 yX1_meanPages yX1_meanPages, Cond.code yX1_meanPages cX1_meanPages 5 (some .double), Cond.methodLink RL 200 yX2_meanPages, Cond.instanceMethod yX2_meanPages, Cond.selects RX2 yX2_meanPages yX2_meanPages, Cond.code yX2_meanPages cX2_meanPages 4 (some .double), Cond.methodLink RL 201 yX1_digest]
def wsL_law0_r28 : List Cond := [Cond.instanceMethod yX1_digest, Cond.selects RX1 yX1_digest yX1_digest, Cond.code yX1_digest cX1_digest 4 (some .long), Cond.constantLong RX1 179 (2113), Cond.methodLink RX1 181 yX1_bookPages, Cond.methodLink RX1 184 yX1_digestWith, Cond.static yX1_digestWith, Cond.code yX1_digestWith cX1_digestWith 4 (some .long), Cond.constantLong RX1 207 (31), Cond.methodLink RX1 188 yX1_headings, Cond.methodLink RX1 191 yX1_barePages, Cond.methodLink RX1 194 yX1_fullestPage, Cond.methodLink RX1 197 yX1_vainSees, Cond.methodLink RX1 200 yX1_unled, Cond.methodLink RX1 203 yX1_digestWithHeading, Cond.instanceMethod yX1_digestWithHeading, Cond.selects RX1 yX1_digestWithHeading yX1_digestWithHeading, Cond.code yX1_digestWithHeading cX1_digestWithHeading 8 (some .long), Cond.methodLink RL 205 yX2_digest, Cond.instanceMethod yX2_digest, Cond.selects RX2 yX2_digest yX2_digest, Cond.code yX2_digest cX2_digest 11 (some .long), Cond.constantLong RX2 129 (2113), Cond.constantLong RX2 131 (31)]
def wsL_law0 : List Cond := (wsL_law0_r1 ++ (wsL_law0_r2 ++ (wsL_law0_r3 ++ (wsL_law0_r4 ++ (wsL_law0_r5 ++ (wsL_law0_r6 ++ (wsL_law0_r7 ++ (wsL_law0_r8 ++ (wsL_law0_r9 ++ (wsL_law0_r10 ++ (wsL_law0_r11 ++ (wsL_law0_r12 ++ (wsL_law0_r13 ++ (wsL_law0_r14 ++ (wsL_law0_r15 ++ (wsL_law0_r16 ++ (wsL_law0_r17 ++ (wsL_law0_r18 ++ (wsL_law0_r19 ++ (wsL_law0_r20 ++ (wsL_law0_r21 ++ (wsL_law0_r22 ++ (wsL_law0_r23 ++ (wsL_law0_r24 ++ (wsL_law0_r25 ++ (wsL_law0_r26 ++ (wsL_law0_r27 ++ wsL_law0_r28))))))))))))))))))))))))))) ++ wsX10 ++ wsX20 ++ wsX00 ++ ([] : List Cond)
def wsL_law : List Cond := wsL_law0 ++ (vx_atS RX1 47 "java/lang/IllegalStateException" ["java/lang/RuntimeException", "java/lang/Exception"]).filter goodWord ++ (vx_atS RX1 216 "java/lang/IndexOutOfBoundsException" ["java/lang/RuntimeException", "java/lang/Exception"]).filter goodWord ++ (vx_atS RX1 113 "java/lang/IllegalArgumentException" ["java/lang/RuntimeException", "java/lang/Exception"]).filter goodWord
end
section
theorem dX0_init_0 : decode cX0_init 0 = .ok (.aload_n 0, 1) := by decide +kernel
theorem dX0_init_1 : decode cX0_init 1 = .ok (.invokespecial 3, 3) := by decide +kernel
theorem dX0_init_4 : decode cX0_init 4 = .ok (.aload_n 0, 1) := by decide +kernel
theorem dX0_init_5 : decode cX0_init 5 = .ok (.bipush 16, 2) := by decide +kernel
theorem dX0_init_7 : decode cX0_init 7 = .ok (.newarray .int, 2) := by decide +kernel
theorem dX0_init_9 : decode cX0_init 9 = .ok (.putfield 9, 3) := by decide +kernel
theorem dX0_init_12 : decode cX0_init 12 = .ok (.aload_n 0, 1) := by decide +kernel
theorem dX0_init_13 : decode cX0_init 13 = .ok (.bipush 16, 2) := by decide +kernel
theorem dX0_init_15 : decode cX0_init 15 = .ok (.newarray .int, 2) := by decide +kernel
theorem dX0_init_17 : decode cX0_init 17 = .ok (.putfield 15, 3) := by decide +kernel
theorem dX0_init_20 : decode cX0_init 20 = .ok (.aload_n 0, 1) := by decide +kernel
theorem dX0_init_21 : decode cX0_init 21 = .ok (.iconst 0, 1) := by decide +kernel
theorem dX0_init_22 : decode cX0_init 22 = .ok (.putfield 18, 3) := by decide +kernel
theorem dX0_init_25 : decode cX0_init 25 = .ok (.return_, 1) := by decide +kernel
theorem dX0_count_0 : decode cX0_count 0 = .ok (.aload_n 0, 1) := by decide +kernel
theorem dX0_count_1 : decode cX0_count 1 = .ok (.getfield 18, 3) := by decide +kernel
theorem dX0_count_4 : decode cX0_count 4 = .ok (.ireturn, 1) := by decide +kernel
theorem dX0_first_0 : decode cX0_first 0 = .ok (.iload_n 1, 1) := by decide +kernel
theorem dX0_first_1 : decode cX0_first 1 = .ok (.ifCond .lt 20, 3) := by decide +kernel
theorem dX0_first_4 : decode cX0_first 4 = .ok (.iload_n 1, 1) := by decide +kernel
theorem dX0_first_5 : decode cX0_first 5 = .ok (.aload_n 0, 1) := by decide +kernel
theorem dX0_first_6 : decode cX0_first 6 = .ok (.getfield 18, 3) := by decide +kernel
theorem dX0_first_9 : decode cX0_first 9 = .ok (.if_icmp .ge 12, 3) := by decide +kernel
theorem dX0_first_12 : decode cX0_first 12 = .ok (.aload_n 0, 1) := by decide +kernel
theorem dX0_first_13 : decode cX0_first 13 = .ok (.getfield 9, 3) := by decide +kernel
theorem dX0_first_16 : decode cX0_first 16 = .ok (.iload_n 1, 1) := by decide +kernel
theorem dX0_first_17 : decode cX0_first 17 = .ok (.iaload, 1) := by decide +kernel
theorem dX0_first_18 : decode cX0_first 18 = .ok (.goto 4, 3) := by decide +kernel
theorem dX0_first_21 : decode cX0_first 21 = .ok (.iconst 0, 1) := by decide +kernel
theorem dX0_first_22 : decode cX0_first 22 = .ok (.ireturn, 1) := by decide +kernel
theorem dX0_last_0 : decode cX0_last 0 = .ok (.iload_n 1, 1) := by decide +kernel
theorem dX0_last_1 : decode cX0_last 1 = .ok (.ifCond .lt 20, 3) := by decide +kernel
theorem dX0_last_4 : decode cX0_last 4 = .ok (.iload_n 1, 1) := by decide +kernel
theorem dX0_last_5 : decode cX0_last 5 = .ok (.aload_n 0, 1) := by decide +kernel
theorem dX0_last_6 : decode cX0_last 6 = .ok (.getfield 18, 3) := by decide +kernel
theorem dX0_last_9 : decode cX0_last 9 = .ok (.if_icmp .ge 12, 3) := by decide +kernel
theorem dX0_last_12 : decode cX0_last 12 = .ok (.aload_n 0, 1) := by decide +kernel
theorem dX0_last_13 : decode cX0_last 13 = .ok (.getfield 15, 3) := by decide +kernel
theorem dX0_last_16 : decode cX0_last 16 = .ok (.iload_n 1, 1) := by decide +kernel
theorem dX0_last_17 : decode cX0_last 17 = .ok (.iaload, 1) := by decide +kernel
theorem dX0_last_18 : decode cX0_last 18 = .ok (.goto 4, 3) := by decide +kernel
theorem dX0_last_21 : decode cX0_last 21 = .ok (.iconst 0, 1) := by decide +kernel
theorem dX0_last_22 : decode cX0_last 22 = .ok (.ireturn, 1) := by decide +kernel
theorem dX0_pages_0 : decode cX0_pages 0 = .ok (.iconst 0, 1) := by decide +kernel
theorem dX0_pages_1 : decode cX0_pages 1 = .ok (.istore_n 1, 1) := by decide +kernel
theorem dX0_pages_2 : decode cX0_pages 2 = .ok (.iconst 0, 1) := by decide +kernel
theorem dX0_pages_3 : decode cX0_pages 3 = .ok (.istore_n 2, 1) := by decide +kernel
theorem dX0_pages_4 : decode cX0_pages 4 = .ok (.iload_n 2, 1) := by decide +kernel
theorem dX0_pages_5 : decode cX0_pages 5 = .ok (.aload_n 0, 1) := by decide +kernel
theorem dX0_pages_6 : decode cX0_pages 6 = .ok (.getfield 18, 3) := by decide +kernel
theorem dX0_pages_9 : decode cX0_pages 9 = .ok (.if_icmp .ge 27, 3) := by decide +kernel
theorem dX0_pages_12 : decode cX0_pages 12 = .ok (.iload_n 1, 1) := by decide +kernel
theorem dX0_pages_13 : decode cX0_pages 13 = .ok (.aload_n 0, 1) := by decide +kernel
theorem dX0_pages_14 : decode cX0_pages 14 = .ok (.getfield 15, 3) := by decide +kernel
theorem dX0_pages_17 : decode cX0_pages 17 = .ok (.iload_n 2, 1) := by decide +kernel
theorem dX0_pages_18 : decode cX0_pages 18 = .ok (.iaload, 1) := by decide +kernel
theorem dX0_pages_19 : decode cX0_pages 19 = .ok (.aload_n 0, 1) := by decide +kernel
theorem dX0_pages_20 : decode cX0_pages 20 = .ok (.getfield 9, 3) := by decide +kernel
theorem dX0_pages_23 : decode cX0_pages 23 = .ok (.iload_n 2, 1) := by decide +kernel
theorem dX0_pages_24 : decode cX0_pages 24 = .ok (.iaload, 1) := by decide +kernel
theorem dX0_pages_25 : decode cX0_pages 25 = .ok (.isub, 1) := by decide +kernel
theorem dX0_pages_26 : decode cX0_pages 26 = .ok (.iconst 1, 1) := by decide +kernel
theorem dX0_pages_27 : decode cX0_pages 27 = .ok (.iadd, 1) := by decide +kernel
theorem dX0_pages_28 : decode cX0_pages 28 = .ok (.iadd, 1) := by decide +kernel
theorem dX0_pages_29 : decode cX0_pages 29 = .ok (.istore_n 1, 1) := by decide +kernel
theorem dX0_pages_30 : decode cX0_pages 30 = .ok (.iinc 2 1, 3) := by decide +kernel
theorem dX0_pages_33 : decode cX0_pages 33 = .ok (.goto (-29), 3) := by decide +kernel
theorem dX0_pages_36 : decode cX0_pages 36 = .ok (.iload_n 1, 1) := by decide +kernel
theorem dX0_pages_37 : decode cX0_pages 37 = .ok (.ireturn, 1) := by decide +kernel
theorem dX0_has_0 : decode cX0_has 0 = .ok (.iconst 0, 1) := by decide +kernel
theorem dX0_has_1 : decode cX0_has 1 = .ok (.istore_n 2, 1) := by decide +kernel
theorem dX0_has_2 : decode cX0_has 2 = .ok (.iload_n 2, 1) := by decide +kernel
theorem dX0_has_3 : decode cX0_has 3 = .ok (.aload_n 0, 1) := by decide +kernel
theorem dX0_has_4 : decode cX0_has 4 = .ok (.getfield 18, 3) := by decide +kernel
theorem dX0_has_7 : decode cX0_has 7 = .ok (.if_icmp .ge 31, 3) := by decide +kernel
theorem dX0_has_10 : decode cX0_has 10 = .ok (.aload_n 0, 1) := by decide +kernel
theorem dX0_has_11 : decode cX0_has 11 = .ok (.getfield 9, 3) := by decide +kernel
theorem dX0_has_14 : decode cX0_has 14 = .ok (.iload_n 2, 1) := by decide +kernel
theorem dX0_has_15 : decode cX0_has 15 = .ok (.iaload, 1) := by decide +kernel
theorem dX0_has_16 : decode cX0_has 16 = .ok (.iload_n 1, 1) := by decide +kernel
theorem dX0_has_17 : decode cX0_has 17 = .ok (.if_icmp .gt 15, 3) := by decide +kernel
theorem dX0_has_20 : decode cX0_has 20 = .ok (.iload_n 1, 1) := by decide +kernel
theorem dX0_has_21 : decode cX0_has 21 = .ok (.aload_n 0, 1) := by decide +kernel
theorem dX0_has_22 : decode cX0_has 22 = .ok (.getfield 15, 3) := by decide +kernel
theorem dX0_has_25 : decode cX0_has 25 = .ok (.iload_n 2, 1) := by decide +kernel
theorem dX0_has_26 : decode cX0_has 26 = .ok (.iaload, 1) := by decide +kernel
theorem dX0_has_27 : decode cX0_has 27 = .ok (.if_icmp .gt 5, 3) := by decide +kernel
theorem dX0_has_30 : decode cX0_has 30 = .ok (.iconst 1, 1) := by decide +kernel
theorem dX0_has_31 : decode cX0_has 31 = .ok (.ireturn, 1) := by decide +kernel
theorem dX0_has_32 : decode cX0_has 32 = .ok (.iinc 2 1, 3) := by decide +kernel
theorem dX0_has_35 : decode cX0_has 35 = .ok (.goto (-33), 3) := by decide +kernel
theorem dX0_has_38 : decode cX0_has 38 = .ok (.iconst 0, 1) := by decide +kernel
theorem dX0_has_39 : decode cX0_has 39 = .ok (.ireturn, 1) := by decide +kernel
theorem dX0_pagesInCommon_0 : decode cX0_pagesInCommon 0 = .ok (.iconst 0, 1) := by decide +kernel
theorem dX0_pagesInCommon_1 : decode cX0_pagesInCommon 1 = .ok (.istore_n 2, 1) := by decide +kernel
theorem dX0_pagesInCommon_2 : decode cX0_pagesInCommon 2 = .ok (.iconst 0, 1) := by decide +kernel
theorem dX0_pagesInCommon_3 : decode cX0_pagesInCommon 3 = .ok (.istore_n 3, 1) := by decide +kernel
theorem dX0_pagesInCommon_4 : decode cX0_pagesInCommon 4 = .ok (.iconst 0, 1) := by decide +kernel
theorem dX0_pagesInCommon_5 : decode cX0_pagesInCommon 5 = .ok (.istore 4, 2) := by decide +kernel
theorem dX0_pagesInCommon_7 : decode cX0_pagesInCommon 7 = .ok (.aload_n 0, 1) := by decide +kernel
theorem dX0_pagesInCommon_8 : decode cX0_pagesInCommon 8 = .ok (.getfield 18, 3) := by decide +kernel
theorem dX0_pagesInCommon_11 : decode cX0_pagesInCommon 11 = .ok (.aload_n 1, 1) := by decide +kernel
theorem dX0_pagesInCommon_12 : decode cX0_pagesInCommon 12 = .ok (.getfield 18, 3) := by decide +kernel
theorem dX0_pagesInCommon_15 : decode cX0_pagesInCommon 15 = .ok (.iadd, 1) := by decide +kernel
theorem dX0_pagesInCommon_16 : decode cX0_pagesInCommon 16 = .ok (.istore 5, 2) := by decide +kernel
theorem dX0_pagesInCommon_18 : decode cX0_pagesInCommon 18 = .ok (.iload 5, 2) := by decide +kernel
theorem dX0_pagesInCommon_20 : decode cX0_pagesInCommon 20 = .ok (.ifCond .le 101, 3) := by decide +kernel
theorem dX0_pagesInCommon_23 : decode cX0_pagesInCommon 23 = .ok (.iload_n 3, 1) := by decide +kernel
theorem dX0_pagesInCommon_24 : decode cX0_pagesInCommon 24 = .ok (.aload_n 0, 1) := by decide +kernel
theorem dX0_pagesInCommon_25 : decode cX0_pagesInCommon 25 = .ok (.getfield 18, 3) := by decide +kernel
theorem dX0_pagesInCommon_28 : decode cX0_pagesInCommon 28 = .ok (.if_icmp .ge 93, 3) := by decide +kernel
theorem dX0_pagesInCommon_31 : decode cX0_pagesInCommon 31 = .ok (.iload 4, 2) := by decide +kernel
theorem dX0_pagesInCommon_33 : decode cX0_pagesInCommon 33 = .ok (.aload_n 1, 1) := by decide +kernel
theorem dX0_pagesInCommon_34 : decode cX0_pagesInCommon 34 = .ok (.getfield 18, 3) := by decide +kernel
theorem dX0_pagesInCommon_37 : decode cX0_pagesInCommon 37 = .ok (.if_icmp .ge 84, 3) := by decide +kernel
theorem dX0_pagesInCommon_40 : decode cX0_pagesInCommon 40 = .ok (.aload_n 0, 1) := by decide +kernel
theorem dX0_pagesInCommon_41 : decode cX0_pagesInCommon 41 = .ok (.getfield 9, 3) := by decide +kernel
theorem dX0_pagesInCommon_44 : decode cX0_pagesInCommon 44 = .ok (.iload_n 3, 1) := by decide +kernel
theorem dX0_pagesInCommon_45 : decode cX0_pagesInCommon 45 = .ok (.iaload, 1) := by decide +kernel
theorem dX0_pagesInCommon_46 : decode cX0_pagesInCommon 46 = .ok (.aload_n 1, 1) := by decide +kernel
theorem dX0_pagesInCommon_47 : decode cX0_pagesInCommon 47 = .ok (.getfield 9, 3) := by decide +kernel
theorem dX0_pagesInCommon_50 : decode cX0_pagesInCommon 50 = .ok (.iload 4, 2) := by decide +kernel
theorem dX0_pagesInCommon_52 : decode cX0_pagesInCommon 52 = .ok (.iaload, 1) := by decide +kernel
theorem dX0_pagesInCommon_53 : decode cX0_pagesInCommon 53 = .ok (.invokestatic 22, 3) := by decide +kernel
theorem dX0_pagesInCommon_56 : decode cX0_pagesInCommon 56 = .ok (.istore 6, 2) := by decide +kernel
theorem dX0_pagesInCommon_58 : decode cX0_pagesInCommon 58 = .ok (.aload_n 0, 1) := by decide +kernel
theorem dX0_pagesInCommon_59 : decode cX0_pagesInCommon 59 = .ok (.getfield 15, 3) := by decide +kernel
theorem dX0_pagesInCommon_62 : decode cX0_pagesInCommon 62 = .ok (.iload_n 3, 1) := by decide +kernel
theorem dX0_pagesInCommon_63 : decode cX0_pagesInCommon 63 = .ok (.iaload, 1) := by decide +kernel
theorem dX0_pagesInCommon_64 : decode cX0_pagesInCommon 64 = .ok (.aload_n 1, 1) := by decide +kernel
theorem dX0_pagesInCommon_65 : decode cX0_pagesInCommon 65 = .ok (.getfield 15, 3) := by decide +kernel
theorem dX0_pagesInCommon_68 : decode cX0_pagesInCommon 68 = .ok (.iload 4, 2) := by decide +kernel
theorem dX0_pagesInCommon_70 : decode cX0_pagesInCommon 70 = .ok (.iaload, 1) := by decide +kernel
theorem dX0_pagesInCommon_71 : decode cX0_pagesInCommon 71 = .ok (.invokestatic 28, 3) := by decide +kernel
theorem dX0_pagesInCommon_74 : decode cX0_pagesInCommon 74 = .ok (.istore 7, 2) := by decide +kernel
theorem dX0_pagesInCommon_76 : decode cX0_pagesInCommon 76 = .ok (.iload_n 2, 1) := by decide +kernel
theorem dX0_pagesInCommon_77 : decode cX0_pagesInCommon 77 = .ok (.iconst 0, 1) := by decide +kernel
theorem dX0_pagesInCommon_78 : decode cX0_pagesInCommon 78 = .ok (.iload 7, 2) := by decide +kernel
theorem dX0_pagesInCommon_80 : decode cX0_pagesInCommon 80 = .ok (.iload 6, 2) := by decide +kernel
theorem dX0_pagesInCommon_82 : decode cX0_pagesInCommon 82 = .ok (.isub, 1) := by decide +kernel
theorem dX0_pagesInCommon_83 : decode cX0_pagesInCommon 83 = .ok (.iconst 1, 1) := by decide +kernel
theorem dX0_pagesInCommon_84 : decode cX0_pagesInCommon 84 = .ok (.iadd, 1) := by decide +kernel
theorem dX0_pagesInCommon_85 : decode cX0_pagesInCommon 85 = .ok (.invokestatic 22, 3) := by decide +kernel
theorem dX0_pagesInCommon_88 : decode cX0_pagesInCommon 88 = .ok (.iadd, 1) := by decide +kernel
theorem dX0_pagesInCommon_89 : decode cX0_pagesInCommon 89 = .ok (.istore_n 2, 1) := by decide +kernel
theorem dX0_pagesInCommon_90 : decode cX0_pagesInCommon 90 = .ok (.aload_n 0, 1) := by decide +kernel
theorem dX0_pagesInCommon_91 : decode cX0_pagesInCommon 91 = .ok (.getfield 15, 3) := by decide +kernel
theorem dX0_pagesInCommon_94 : decode cX0_pagesInCommon 94 = .ok (.iload_n 3, 1) := by decide +kernel
theorem dX0_pagesInCommon_95 : decode cX0_pagesInCommon 95 = .ok (.iaload, 1) := by decide +kernel
theorem dX0_pagesInCommon_96 : decode cX0_pagesInCommon 96 = .ok (.aload_n 1, 1) := by decide +kernel
theorem dX0_pagesInCommon_97 : decode cX0_pagesInCommon 97 = .ok (.getfield 15, 3) := by decide +kernel
theorem dX0_pagesInCommon_100 : decode cX0_pagesInCommon 100 = .ok (.iload 4, 2) := by decide +kernel
theorem dX0_pagesInCommon_102 : decode cX0_pagesInCommon 102 = .ok (.iaload, 1) := by decide +kernel
theorem dX0_pagesInCommon_103 : decode cX0_pagesInCommon 103 = .ok (.if_icmp .gt 9, 3) := by decide +kernel
theorem dX0_pagesInCommon_106 : decode cX0_pagesInCommon 106 = .ok (.iinc 3 1, 3) := by decide +kernel
theorem dX0_pagesInCommon_109 : decode cX0_pagesInCommon 109 = .ok (.goto 6, 3) := by decide +kernel
theorem dX0_pagesInCommon_112 : decode cX0_pagesInCommon 112 = .ok (.iinc 4 1, 3) := by decide +kernel
theorem dX0_pagesInCommon_115 : decode cX0_pagesInCommon 115 = .ok (.iinc 5 (-1), 3) := by decide +kernel
theorem dX0_pagesInCommon_118 : decode cX0_pagesInCommon 118 = .ok (.goto (-100), 3) := by decide +kernel
theorem dX0_pagesInCommon_121 : decode cX0_pagesInCommon 121 = .ok (.iload_n 2, 1) := by decide +kernel
theorem dX0_pagesInCommon_122 : decode cX0_pagesInCommon 122 = .ok (.ireturn, 1) := by decide +kernel
theorem dX0_append_0 : decode cX0_append 0 = .ok (.aload_n 0, 1) := by decide +kernel
theorem dX0_append_1 : decode cX0_append 1 = .ok (.getfield 18, 3) := by decide +kernel
theorem dX0_append_4 : decode cX0_append 4 = .ok (.ifCond .le 51, 3) := by decide +kernel
theorem dX0_append_7 : decode cX0_append 7 = .ok (.iload_n 1, 1) := by decide +kernel
theorem dX0_append_8 : decode cX0_append 8 = .ok (.aload_n 0, 1) := by decide +kernel
theorem dX0_append_9 : decode cX0_append 9 = .ok (.getfield 15, 3) := by decide +kernel
theorem dX0_append_12 : decode cX0_append 12 = .ok (.aload_n 0, 1) := by decide +kernel
theorem dX0_append_13 : decode cX0_append 13 = .ok (.getfield 18, 3) := by decide +kernel
theorem dX0_append_16 : decode cX0_append 16 = .ok (.iconst 1, 1) := by decide +kernel
theorem dX0_append_17 : decode cX0_append 17 = .ok (.isub, 1) := by decide +kernel
theorem dX0_append_18 : decode cX0_append 18 = .ok (.iaload, 1) := by decide +kernel
theorem dX0_append_19 : decode cX0_append 19 = .ok (.isub, 1) := by decide +kernel
theorem dX0_append_20 : decode cX0_append 20 = .ok (.iconst 1, 1) := by decide +kernel
theorem dX0_append_21 : decode cX0_append 21 = .ok (.isub, 1) := by decide +kernel
theorem dX0_append_22 : decode cX0_append 22 = .ok (.iload_n 3, 1) := by decide +kernel
theorem dX0_append_23 : decode cX0_append 23 = .ok (.if_icmp .gt 32, 3) := by decide +kernel
theorem dX0_append_26 : decode cX0_append 26 = .ok (.aload_n 0, 1) := by decide +kernel
theorem dX0_append_27 : decode cX0_append 27 = .ok (.getfield 15, 3) := by decide +kernel
theorem dX0_append_30 : decode cX0_append 30 = .ok (.aload_n 0, 1) := by decide +kernel
theorem dX0_append_31 : decode cX0_append 31 = .ok (.getfield 18, 3) := by decide +kernel
theorem dX0_append_34 : decode cX0_append 34 = .ok (.iconst 1, 1) := by decide +kernel
theorem dX0_append_35 : decode cX0_append 35 = .ok (.isub, 1) := by decide +kernel
theorem dX0_append_36 : decode cX0_append 36 = .ok (.aload_n 0, 1) := by decide +kernel
theorem dX0_append_37 : decode cX0_append 37 = .ok (.getfield 15, 3) := by decide +kernel
theorem dX0_append_40 : decode cX0_append 40 = .ok (.aload_n 0, 1) := by decide +kernel
theorem dX0_append_41 : decode cX0_append 41 = .ok (.getfield 18, 3) := by decide +kernel
theorem dX0_append_44 : decode cX0_append 44 = .ok (.iconst 1, 1) := by decide +kernel
theorem dX0_append_45 : decode cX0_append 45 = .ok (.isub, 1) := by decide +kernel
theorem dX0_append_46 : decode cX0_append 46 = .ok (.iaload, 1) := by decide +kernel
theorem dX0_append_47 : decode cX0_append 47 = .ok (.iload_n 2, 1) := by decide +kernel
theorem dX0_append_48 : decode cX0_append 48 = .ok (.invokestatic 22, 3) := by decide +kernel
theorem dX0_append_51 : decode cX0_append 51 = .ok (.iastore, 1) := by decide +kernel
theorem dX0_append_52 : decode cX0_append 52 = .ok (.goto 42, 3) := by decide +kernel
theorem dX0_append_55 : decode cX0_append 55 = .ok (.aload_n 0, 1) := by decide +kernel
theorem dX0_append_56 : decode cX0_append 56 = .ok (.getfield 18, 3) := by decide +kernel
theorem dX0_append_59 : decode cX0_append 59 = .ok (.bipush 16, 2) := by decide +kernel
theorem dX0_append_61 : decode cX0_append 61 = .ok (.if_icmp .ge 33, 3) := by decide +kernel
theorem dX0_append_64 : decode cX0_append 64 = .ok (.aload_n 0, 1) := by decide +kernel
theorem dX0_append_65 : decode cX0_append 65 = .ok (.getfield 9, 3) := by decide +kernel
theorem dX0_append_68 : decode cX0_append 68 = .ok (.aload_n 0, 1) := by decide +kernel
theorem dX0_append_69 : decode cX0_append 69 = .ok (.getfield 18, 3) := by decide +kernel
theorem dX0_append_72 : decode cX0_append 72 = .ok (.iload_n 1, 1) := by decide +kernel
theorem dX0_append_73 : decode cX0_append 73 = .ok (.iastore, 1) := by decide +kernel
theorem dX0_append_74 : decode cX0_append 74 = .ok (.aload_n 0, 1) := by decide +kernel
theorem dX0_append_75 : decode cX0_append 75 = .ok (.getfield 15, 3) := by decide +kernel
theorem dX0_append_78 : decode cX0_append 78 = .ok (.aload_n 0, 1) := by decide +kernel
theorem dX0_append_79 : decode cX0_append 79 = .ok (.getfield 18, 3) := by decide +kernel
theorem dX0_append_82 : decode cX0_append 82 = .ok (.iload_n 2, 1) := by decide +kernel
theorem dX0_append_83 : decode cX0_append 83 = .ok (.iastore, 1) := by decide +kernel
theorem dX0_append_84 : decode cX0_append 84 = .ok (.aload_n 0, 1) := by decide +kernel
theorem dX0_append_85 : decode cX0_append 85 = .ok (.dup, 1) := by decide +kernel
theorem dX0_append_86 : decode cX0_append 86 = .ok (.getfield 18, 3) := by decide +kernel
theorem dX0_append_89 : decode cX0_append 89 = .ok (.iconst 1, 1) := by decide +kernel
theorem dX0_append_90 : decode cX0_append 90 = .ok (.iadd, 1) := by decide +kernel
theorem dX0_append_91 : decode cX0_append 91 = .ok (.putfield 18, 3) := by decide +kernel
theorem dX0_append_94 : decode cX0_append 94 = .ok (.return_, 1) := by decide +kernel
set_option maxRecDepth 20000 in
theorem ggX0_becomeOne_X0_append : GoodIn wsX0_becomeOne wsX0_append := goodIn_r _ [6, 1, 7, 8, 9, 10, 11, 12, 13, 14, 15] (by decide +kernel) (by decide +kernel)
set_option maxRecDepth 20000 in
theorem gX0_becomeOne_X0_append : GoodIn wsX0_becomeOne (wsV RX0 31 RX0 yX0_append wsX0_append) := goodIn_app (goodIn_of _ (by decide +kernel)) ggX0_becomeOne_X0_append
theorem dX0_becomeOne_0 : decode cX0_becomeOne 0 = .ok (.aload_n 0, 1) := by decide +kernel
theorem dX0_becomeOne_1 : decode cX0_becomeOne 1 = .ok (.iconst 0, 1) := by decide +kernel
theorem dX0_becomeOne_2 : decode cX0_becomeOne 2 = .ok (.putfield 18, 3) := by decide +kernel
theorem dX0_becomeOne_5 : decode cX0_becomeOne 5 = .ok (.aload_n 0, 1) := by decide +kernel
theorem dX0_becomeOne_6 : decode cX0_becomeOne 6 = .ok (.iload_n 1, 1) := by decide +kernel
theorem dX0_becomeOne_7 : decode cX0_becomeOne 7 = .ok (.iload_n 2, 1) := by decide +kernel
theorem dX0_becomeOne_8 : decode cX0_becomeOne 8 = .ok (.iconst 0, 1) := by decide +kernel
theorem dX0_becomeOne_9 : decode cX0_becomeOne 9 = .ok (.invokevirtual 31, 3) := by decide +kernel
theorem dX0_becomeOne_12 : decode cX0_becomeOne 12 = .ok (.return_, 1) := by decide +kernel
set_option maxRecDepth 20000 in
theorem ggX0_becomeSame_X0_becomeBridged : GoodIn wsX0_becomeSame wsX0_becomeBridged := goodIn_r _ [5, 6, 7, 8, 9, 10, 11, 4, 12, 13, 14, 15, 16, 17, 18, 19] (by decide +kernel) (by decide +kernel)
set_option maxRecDepth 20000 in
theorem gX0_becomeSame_X0_becomeBridged : GoodIn wsX0_becomeSame (wsV RX0 35 RX0 yX0_becomeBridged wsX0_becomeBridged) := goodIn_app (goodIn_of _ (by decide +kernel)) ggX0_becomeSame_X0_becomeBridged
theorem dX0_becomeSame_0 : decode cX0_becomeSame 0 = .ok (.aload_n 0, 1) := by decide +kernel
theorem dX0_becomeSame_1 : decode cX0_becomeSame 1 = .ok (.aload_n 1, 1) := by decide +kernel
theorem dX0_becomeSame_2 : decode cX0_becomeSame 2 = .ok (.iconst 0, 1) := by decide +kernel
theorem dX0_becomeSame_3 : decode cX0_becomeSame 3 = .ok (.invokevirtual 35, 3) := by decide +kernel
theorem dX0_becomeSame_6 : decode cX0_becomeSame 6 = .ok (.return_, 1) := by decide +kernel
set_option maxRecDepth 20000 in
theorem ggX0_becomeBridged_X0_append : GoodIn wsX0_becomeBridged wsX0_append := goodIn_r _ [8, 1, 3, 9, 10, 11, 12, 2, 13, 14, 15] (by decide +kernel) (by decide +kernel)
set_option maxRecDepth 20000 in
theorem gX0_becomeBridged_X0_append : GoodIn wsX0_becomeBridged (wsV RX0 31 RX0 yX0_append wsX0_append) := goodIn_app (goodIn_of _ (by decide +kernel)) ggX0_becomeBridged_X0_append
theorem dX0_becomeBridged_0 : decode cX0_becomeBridged 0 = .ok (.aload_n 0, 1) := by decide +kernel
theorem dX0_becomeBridged_1 : decode cX0_becomeBridged 1 = .ok (.iconst 0, 1) := by decide +kernel
theorem dX0_becomeBridged_2 : decode cX0_becomeBridged 2 = .ok (.putfield 18, 3) := by decide +kernel
theorem dX0_becomeBridged_5 : decode cX0_becomeBridged 5 = .ok (.iconst 0, 1) := by decide +kernel
theorem dX0_becomeBridged_6 : decode cX0_becomeBridged 6 = .ok (.istore_n 3, 1) := by decide +kernel
theorem dX0_becomeBridged_7 : decode cX0_becomeBridged 7 = .ok (.iload_n 3, 1) := by decide +kernel
theorem dX0_becomeBridged_8 : decode cX0_becomeBridged 8 = .ok (.aload_n 1, 1) := by decide +kernel
theorem dX0_becomeBridged_9 : decode cX0_becomeBridged 9 = .ok (.getfield 18, 3) := by decide +kernel
theorem dX0_becomeBridged_12 : decode cX0_becomeBridged 12 = .ok (.if_icmp .ge 26, 3) := by decide +kernel
theorem dX0_becomeBridged_15 : decode cX0_becomeBridged 15 = .ok (.aload_n 0, 1) := by decide +kernel
theorem dX0_becomeBridged_16 : decode cX0_becomeBridged 16 = .ok (.aload_n 1, 1) := by decide +kernel
theorem dX0_becomeBridged_17 : decode cX0_becomeBridged 17 = .ok (.getfield 9, 3) := by decide +kernel
theorem dX0_becomeBridged_20 : decode cX0_becomeBridged 20 = .ok (.iload_n 3, 1) := by decide +kernel
theorem dX0_becomeBridged_21 : decode cX0_becomeBridged 21 = .ok (.iaload, 1) := by decide +kernel
theorem dX0_becomeBridged_22 : decode cX0_becomeBridged 22 = .ok (.aload_n 1, 1) := by decide +kernel
theorem dX0_becomeBridged_23 : decode cX0_becomeBridged 23 = .ok (.getfield 15, 3) := by decide +kernel
theorem dX0_becomeBridged_26 : decode cX0_becomeBridged 26 = .ok (.iload_n 3, 1) := by decide +kernel
theorem dX0_becomeBridged_27 : decode cX0_becomeBridged 27 = .ok (.iaload, 1) := by decide +kernel
theorem dX0_becomeBridged_28 : decode cX0_becomeBridged 28 = .ok (.iload_n 2, 1) := by decide +kernel
theorem dX0_becomeBridged_29 : decode cX0_becomeBridged 29 = .ok (.invokevirtual 31, 3) := by decide +kernel
theorem dX0_becomeBridged_32 : decode cX0_becomeBridged 32 = .ok (.iinc 3 1, 3) := by decide +kernel
theorem dX0_becomeBridged_35 : decode cX0_becomeBridged 35 = .ok (.goto (-28), 3) := by decide +kernel
theorem dX0_becomeBridged_38 : decode cX0_becomeBridged 38 = .ok (.return_, 1) := by decide +kernel
set_option maxRecDepth 20000 in
theorem ggX0_becomeUnion_X0_first : GoodIn wsX0_becomeUnion wsX0_first := goodIn_r _ [7, 1, 2, 21, 22, 23] (by decide +kernel) (by decide +kernel)
set_option maxRecDepth 20000 in
theorem gX0_becomeUnion_X0_first : GoodIn wsX0_becomeUnion (wsV RX0 39 RX0 yX0_first wsX0_first) := goodIn_app (goodIn_of _ (by decide +kernel)) ggX0_becomeUnion_X0_first
set_option maxRecDepth 20000 in
theorem ggX0_becomeUnion_X0_last : GoodIn wsX0_becomeUnion wsX0_last := goodIn_r _ [11, 1, 12, 21, 22, 23] (by decide +kernel) (by decide +kernel)
set_option maxRecDepth 20000 in
theorem gX0_becomeUnion_X0_last : GoodIn wsX0_becomeUnion (wsV RX0 43 RX0 yX0_last wsX0_last) := goodIn_app (goodIn_of _ (by decide +kernel)) ggX0_becomeUnion_X0_last
set_option maxRecDepth 20000 in
theorem ggX0_becomeUnion_X0_append : GoodIn wsX0_becomeUnion wsX0_append := goodIn_r _ [16, 1, 12, 17, 18, 19, 20, 2, 21, 22, 23] (by decide +kernel) (by decide +kernel)
set_option maxRecDepth 20000 in
theorem gX0_becomeUnion_X0_append : GoodIn wsX0_becomeUnion (wsV RX0 31 RX0 yX0_append wsX0_append) := goodIn_app (goodIn_of _ (by decide +kernel)) ggX0_becomeUnion_X0_append
theorem dX0_becomeUnion_0 : decode cX0_becomeUnion 0 = .ok (.aload_n 0, 1) := by decide +kernel
theorem dX0_becomeUnion_1 : decode cX0_becomeUnion 1 = .ok (.iconst 0, 1) := by decide +kernel
theorem dX0_becomeUnion_2 : decode cX0_becomeUnion 2 = .ok (.putfield 18, 3) := by decide +kernel
theorem dX0_becomeUnion_5 : decode cX0_becomeUnion 5 = .ok (.iconst 0, 1) := by decide +kernel
theorem dX0_becomeUnion_6 : decode cX0_becomeUnion 6 = .ok (.istore_n 3, 1) := by decide +kernel
theorem dX0_becomeUnion_7 : decode cX0_becomeUnion 7 = .ok (.iconst 0, 1) := by decide +kernel
theorem dX0_becomeUnion_8 : decode cX0_becomeUnion 8 = .ok (.istore 4, 2) := by decide +kernel
theorem dX0_becomeUnion_10 : decode cX0_becomeUnion 10 = .ok (.aload_n 1, 1) := by decide +kernel
theorem dX0_becomeUnion_11 : decode cX0_becomeUnion 11 = .ok (.getfield 18, 3) := by decide +kernel
theorem dX0_becomeUnion_14 : decode cX0_becomeUnion 14 = .ok (.aload_n 2, 1) := by decide +kernel
theorem dX0_becomeUnion_15 : decode cX0_becomeUnion 15 = .ok (.getfield 18, 3) := by decide +kernel
theorem dX0_becomeUnion_18 : decode cX0_becomeUnion 18 = .ok (.iadd, 1) := by decide +kernel
theorem dX0_becomeUnion_19 : decode cX0_becomeUnion 19 = .ok (.istore 5, 2) := by decide +kernel
theorem dX0_becomeUnion_21 : decode cX0_becomeUnion 21 = .ok (.iload 5, 2) := by decide +kernel
theorem dX0_becomeUnion_23 : decode cX0_becomeUnion 23 = .ok (.ifCond .le 95, 3) := by decide +kernel
theorem dX0_becomeUnion_26 : decode cX0_becomeUnion 26 = .ok (.iload 4, 2) := by decide +kernel
theorem dX0_becomeUnion_28 : decode cX0_becomeUnion 28 = .ok (.aload_n 2, 1) := by decide +kernel
theorem dX0_becomeUnion_29 : decode cX0_becomeUnion 29 = .ok (.getfield 18, 3) := by decide +kernel
theorem dX0_becomeUnion_32 : decode cX0_becomeUnion 32 = .ok (.if_icmp .ge 27, 3) := by decide +kernel
theorem dX0_becomeUnion_35 : decode cX0_becomeUnion 35 = .ok (.iload_n 3, 1) := by decide +kernel
theorem dX0_becomeUnion_36 : decode cX0_becomeUnion 36 = .ok (.aload_n 1, 1) := by decide +kernel
theorem dX0_becomeUnion_37 : decode cX0_becomeUnion 37 = .ok (.getfield 18, 3) := by decide +kernel
theorem dX0_becomeUnion_40 : decode cX0_becomeUnion 40 = .ok (.if_icmp .ge 23, 3) := by decide +kernel
theorem dX0_becomeUnion_43 : decode cX0_becomeUnion 43 = .ok (.aload_n 1, 1) := by decide +kernel
theorem dX0_becomeUnion_44 : decode cX0_becomeUnion 44 = .ok (.getfield 9, 3) := by decide +kernel
theorem dX0_becomeUnion_47 : decode cX0_becomeUnion 47 = .ok (.iload_n 3, 1) := by decide +kernel
theorem dX0_becomeUnion_48 : decode cX0_becomeUnion 48 = .ok (.iaload, 1) := by decide +kernel
theorem dX0_becomeUnion_49 : decode cX0_becomeUnion 49 = .ok (.aload_n 2, 1) := by decide +kernel
theorem dX0_becomeUnion_50 : decode cX0_becomeUnion 50 = .ok (.getfield 9, 3) := by decide +kernel
theorem dX0_becomeUnion_53 : decode cX0_becomeUnion 53 = .ok (.iload 4, 2) := by decide +kernel
theorem dX0_becomeUnion_55 : decode cX0_becomeUnion 55 = .ok (.iaload, 1) := by decide +kernel
theorem dX0_becomeUnion_56 : decode cX0_becomeUnion 56 = .ok (.if_icmp .gt 7, 3) := by decide +kernel
theorem dX0_becomeUnion_59 : decode cX0_becomeUnion 59 = .ok (.iconst 1, 1) := by decide +kernel
theorem dX0_becomeUnion_60 : decode cX0_becomeUnion 60 = .ok (.goto 4, 3) := by decide +kernel
theorem dX0_becomeUnion_63 : decode cX0_becomeUnion 63 = .ok (.iconst 0, 1) := by decide +kernel
theorem dX0_becomeUnion_64 : decode cX0_becomeUnion 64 = .ok (.istore 6, 2) := by decide +kernel
theorem dX0_becomeUnion_66 : decode cX0_becomeUnion 66 = .ok (.iload 6, 2) := by decide +kernel
theorem dX0_becomeUnion_68 : decode cX0_becomeUnion 68 = .ok (.ifCond .eq 24, 3) := by decide +kernel
theorem dX0_becomeUnion_71 : decode cX0_becomeUnion 71 = .ok (.aload_n 0, 1) := by decide +kernel
theorem dX0_becomeUnion_72 : decode cX0_becomeUnion 72 = .ok (.aload_n 1, 1) := by decide +kernel
theorem dX0_becomeUnion_73 : decode cX0_becomeUnion 73 = .ok (.iload_n 3, 1) := by decide +kernel
theorem dX0_becomeUnion_74 : decode cX0_becomeUnion 74 = .ok (.invokevirtual 39, 3) := by decide +kernel
theorem dX0_becomeUnion_77 : decode cX0_becomeUnion 77 = .ok (.aload_n 1, 1) := by decide +kernel
theorem dX0_becomeUnion_78 : decode cX0_becomeUnion 78 = .ok (.iload_n 3, 1) := by decide +kernel
theorem dX0_becomeUnion_79 : decode cX0_becomeUnion 79 = .ok (.invokevirtual 43, 3) := by decide +kernel
theorem dX0_becomeUnion_82 : decode cX0_becomeUnion 82 = .ok (.iconst 0, 1) := by decide +kernel
theorem dX0_becomeUnion_83 : decode cX0_becomeUnion 83 = .ok (.invokevirtual 31, 3) := by decide +kernel
theorem dX0_becomeUnion_86 : decode cX0_becomeUnion 86 = .ok (.iinc 3 1, 3) := by decide +kernel
theorem dX0_becomeUnion_89 : decode cX0_becomeUnion 89 = .ok (.goto 23, 3) := by decide +kernel
theorem dX0_becomeUnion_92 : decode cX0_becomeUnion 92 = .ok (.aload_n 0, 1) := by decide +kernel
theorem dX0_becomeUnion_93 : decode cX0_becomeUnion 93 = .ok (.aload_n 2, 1) := by decide +kernel
theorem dX0_becomeUnion_94 : decode cX0_becomeUnion 94 = .ok (.iload 4, 2) := by decide +kernel
theorem dX0_becomeUnion_96 : decode cX0_becomeUnion 96 = .ok (.invokevirtual 39, 3) := by decide +kernel
theorem dX0_becomeUnion_99 : decode cX0_becomeUnion 99 = .ok (.aload_n 2, 1) := by decide +kernel
theorem dX0_becomeUnion_100 : decode cX0_becomeUnion 100 = .ok (.iload 4, 2) := by decide +kernel
theorem dX0_becomeUnion_102 : decode cX0_becomeUnion 102 = .ok (.invokevirtual 43, 3) := by decide +kernel
theorem dX0_becomeUnion_105 : decode cX0_becomeUnion 105 = .ok (.iconst 0, 1) := by decide +kernel
theorem dX0_becomeUnion_106 : decode cX0_becomeUnion 106 = .ok (.invokevirtual 31, 3) := by decide +kernel
theorem dX0_becomeUnion_109 : decode cX0_becomeUnion 109 = .ok (.iinc 4 1, 3) := by decide +kernel
theorem dX0_becomeUnion_112 : decode cX0_becomeUnion 112 = .ok (.iinc 5 (-1), 3) := by decide +kernel
theorem dX0_becomeUnion_115 : decode cX0_becomeUnion 115 = .ok (.goto (-94), 3) := by decide +kernel
theorem dX0_becomeUnion_118 : decode cX0_becomeUnion 118 = .ok (.return_, 1) := by decide +kernel
set_option maxRecDepth 20000 in
theorem ggX0_becomeRest_X0_appendUnlessEmpty : GoodIn wsX0_becomeRest wsX0_appendUnlessEmpty := goodIn_r _ [15, 16, 17, 18, 14, 19, 1, 3, 8, 9, 6, 10, 2, 20, 21, 22] (by decide +kernel) (by decide +kernel)
set_option maxRecDepth 20000 in
theorem gX0_becomeRest_X0_appendUnlessEmpty : GoodIn wsX0_becomeRest (wsV RX0 46 RX0 yX0_appendUnlessEmpty wsX0_appendUnlessEmpty) := goodIn_app (goodIn_of _ (by decide +kernel)) ggX0_becomeRest_X0_appendUnlessEmpty
theorem dX0_becomeRest_0 : decode cX0_becomeRest 0 = .ok (.aload_n 0, 1) := by decide +kernel
theorem dX0_becomeRest_1 : decode cX0_becomeRest 1 = .ok (.iconst 0, 1) := by decide +kernel
theorem dX0_becomeRest_2 : decode cX0_becomeRest 2 = .ok (.putfield 18, 3) := by decide +kernel
theorem dX0_becomeRest_5 : decode cX0_becomeRest 5 = .ok (.iconst 0, 1) := by decide +kernel
theorem dX0_becomeRest_6 : decode cX0_becomeRest 6 = .ok (.istore 4, 2) := by decide +kernel
theorem dX0_becomeRest_8 : decode cX0_becomeRest 8 = .ok (.iload 4, 2) := by decide +kernel
theorem dX0_becomeRest_10 : decode cX0_becomeRest 10 = .ok (.aload_n 1, 1) := by decide +kernel
theorem dX0_becomeRest_11 : decode cX0_becomeRest 11 = .ok (.getfield 18, 3) := by decide +kernel
theorem dX0_becomeRest_14 : decode cX0_becomeRest 14 = .ok (.if_icmp .ge 57, 3) := by decide +kernel
theorem dX0_becomeRest_17 : decode cX0_becomeRest 17 = .ok (.aload_n 0, 1) := by decide +kernel
theorem dX0_becomeRest_18 : decode cX0_becomeRest 18 = .ok (.aload_n 1, 1) := by decide +kernel
theorem dX0_becomeRest_19 : decode cX0_becomeRest 19 = .ok (.getfield 9, 3) := by decide +kernel
theorem dX0_becomeRest_22 : decode cX0_becomeRest 22 = .ok (.iload 4, 2) := by decide +kernel
theorem dX0_becomeRest_24 : decode cX0_becomeRest 24 = .ok (.iaload, 1) := by decide +kernel
theorem dX0_becomeRest_25 : decode cX0_becomeRest 25 = .ok (.aload_n 1, 1) := by decide +kernel
theorem dX0_becomeRest_26 : decode cX0_becomeRest 26 = .ok (.getfield 15, 3) := by decide +kernel
theorem dX0_becomeRest_29 : decode cX0_becomeRest 29 = .ok (.iload 4, 2) := by decide +kernel
theorem dX0_becomeRest_31 : decode cX0_becomeRest 31 = .ok (.iaload, 1) := by decide +kernel
theorem dX0_becomeRest_32 : decode cX0_becomeRest 32 = .ok (.iload_n 2, 1) := by decide +kernel
theorem dX0_becomeRest_33 : decode cX0_becomeRest 33 = .ok (.iconst 1, 1) := by decide +kernel
theorem dX0_becomeRest_34 : decode cX0_becomeRest 34 = .ok (.isub, 1) := by decide +kernel
theorem dX0_becomeRest_35 : decode cX0_becomeRest 35 = .ok (.invokestatic 28, 3) := by decide +kernel
theorem dX0_becomeRest_38 : decode cX0_becomeRest 38 = .ok (.invokevirtual 46, 3) := by decide +kernel
theorem dX0_becomeRest_41 : decode cX0_becomeRest 41 = .ok (.aload_n 0, 1) := by decide +kernel
theorem dX0_becomeRest_42 : decode cX0_becomeRest 42 = .ok (.aload_n 1, 1) := by decide +kernel
theorem dX0_becomeRest_43 : decode cX0_becomeRest 43 = .ok (.getfield 9, 3) := by decide +kernel
theorem dX0_becomeRest_46 : decode cX0_becomeRest 46 = .ok (.iload 4, 2) := by decide +kernel
theorem dX0_becomeRest_48 : decode cX0_becomeRest 48 = .ok (.iaload, 1) := by decide +kernel
theorem dX0_becomeRest_49 : decode cX0_becomeRest 49 = .ok (.iload_n 3, 1) := by decide +kernel
theorem dX0_becomeRest_50 : decode cX0_becomeRest 50 = .ok (.iconst 1, 1) := by decide +kernel
theorem dX0_becomeRest_51 : decode cX0_becomeRest 51 = .ok (.iadd, 1) := by decide +kernel
theorem dX0_becomeRest_52 : decode cX0_becomeRest 52 = .ok (.invokestatic 22, 3) := by decide +kernel
theorem dX0_becomeRest_55 : decode cX0_becomeRest 55 = .ok (.aload_n 1, 1) := by decide +kernel
theorem dX0_becomeRest_56 : decode cX0_becomeRest 56 = .ok (.getfield 15, 3) := by decide +kernel
theorem dX0_becomeRest_59 : decode cX0_becomeRest 59 = .ok (.iload 4, 2) := by decide +kernel
theorem dX0_becomeRest_61 : decode cX0_becomeRest 61 = .ok (.iaload, 1) := by decide +kernel
theorem dX0_becomeRest_62 : decode cX0_becomeRest 62 = .ok (.invokevirtual 46, 3) := by decide +kernel
theorem dX0_becomeRest_65 : decode cX0_becomeRest 65 = .ok (.iinc 4 1, 3) := by decide +kernel
theorem dX0_becomeRest_68 : decode cX0_becomeRest 68 = .ok (.goto (-60), 3) := by decide +kernel
theorem dX0_becomeRest_71 : decode cX0_becomeRest 71 = .ok (.return_, 1) := by decide +kernel
set_option maxRecDepth 20000 in
theorem ggX0_becomeWithoutPageOfBook_X0_appendUnlessEmpty : GoodIn wsX0_becomeWithoutPageOfBook wsX0_appendUnlessEmpty := goodIn_r _ [8, 9, 10, 11, 7, 12, 1, 3, 13, 14, 15, 16, 2, 17, 18, 19] (by decide +kernel) (by decide +kernel)
set_option maxRecDepth 20000 in
theorem gX0_becomeWithoutPageOfBook_X0_appendUnlessEmpty : GoodIn wsX0_becomeWithoutPageOfBook (wsV RX0 46 RX0 yX0_appendUnlessEmpty wsX0_appendUnlessEmpty) := goodIn_app (goodIn_of _ (by decide +kernel)) ggX0_becomeWithoutPageOfBook_X0_appendUnlessEmpty
theorem dX0_becomeWithoutPageOfBook_0 : decode cX0_becomeWithoutPageOfBook 0 = .ok (.aload_n 0, 1) := by decide +kernel
theorem dX0_becomeWithoutPageOfBook_1 : decode cX0_becomeWithoutPageOfBook 1 = .ok (.iconst 0, 1) := by decide +kernel
theorem dX0_becomeWithoutPageOfBook_2 : decode cX0_becomeWithoutPageOfBook 2 = .ok (.putfield 18, 3) := by decide +kernel
theorem dX0_becomeWithoutPageOfBook_5 : decode cX0_becomeWithoutPageOfBook 5 = .ok (.iconst 0, 1) := by decide +kernel
theorem dX0_becomeWithoutPageOfBook_6 : decode cX0_becomeWithoutPageOfBook 6 = .ok (.istore_n 3, 1) := by decide +kernel
theorem dX0_becomeWithoutPageOfBook_7 : decode cX0_becomeWithoutPageOfBook 7 = .ok (.iload_n 3, 1) := by decide +kernel
theorem dX0_becomeWithoutPageOfBook_8 : decode cX0_becomeWithoutPageOfBook 8 = .ok (.aload_n 1, 1) := by decide +kernel
theorem dX0_becomeWithoutPageOfBook_9 : decode cX0_becomeWithoutPageOfBook 9 = .ok (.getfield 18, 3) := by decide +kernel
theorem dX0_becomeWithoutPageOfBook_12 : decode cX0_becomeWithoutPageOfBook 12 = .ok (.if_icmp .ge 59, 3) := by decide +kernel
theorem dX0_becomeWithoutPageOfBook_15 : decode cX0_becomeWithoutPageOfBook 15 = .ok (.aload_n 1, 1) := by decide +kernel
theorem dX0_becomeWithoutPageOfBook_16 : decode cX0_becomeWithoutPageOfBook 16 = .ok (.getfield 9, 3) := by decide +kernel
theorem dX0_becomeWithoutPageOfBook_19 : decode cX0_becomeWithoutPageOfBook 19 = .ok (.iload_n 3, 1) := by decide +kernel
theorem dX0_becomeWithoutPageOfBook_20 : decode cX0_becomeWithoutPageOfBook 20 = .ok (.iaload, 1) := by decide +kernel
theorem dX0_becomeWithoutPageOfBook_21 : decode cX0_becomeWithoutPageOfBook 21 = .ok (.istore 4, 2) := by decide +kernel
theorem dX0_becomeWithoutPageOfBook_23 : decode cX0_becomeWithoutPageOfBook 23 = .ok (.aload_n 1, 1) := by decide +kernel
theorem dX0_becomeWithoutPageOfBook_24 : decode cX0_becomeWithoutPageOfBook 24 = .ok (.getfield 15, 3) := by decide +kernel
theorem dX0_becomeWithoutPageOfBook_27 : decode cX0_becomeWithoutPageOfBook 27 = .ok (.iload_n 3, 1) := by decide +kernel
theorem dX0_becomeWithoutPageOfBook_28 : decode cX0_becomeWithoutPageOfBook 28 = .ok (.iaload, 1) := by decide +kernel
theorem dX0_becomeWithoutPageOfBook_29 : decode cX0_becomeWithoutPageOfBook 29 = .ok (.istore 5, 2) := by decide +kernel
theorem dX0_becomeWithoutPageOfBook_31 : decode cX0_becomeWithoutPageOfBook 31 = .ok (.aload_n 0, 1) := by decide +kernel
theorem dX0_becomeWithoutPageOfBook_32 : decode cX0_becomeWithoutPageOfBook 32 = .ok (.iload 4, 2) := by decide +kernel
theorem dX0_becomeWithoutPageOfBook_34 : decode cX0_becomeWithoutPageOfBook 34 = .ok (.iload_n 2, 1) := by decide +kernel
theorem dX0_becomeWithoutPageOfBook_35 : decode cX0_becomeWithoutPageOfBook 35 = .ok (.if_icmp .le 10, 3) := by decide +kernel
theorem dX0_becomeWithoutPageOfBook_38 : decode cX0_becomeWithoutPageOfBook 38 = .ok (.iload 4, 2) := by decide +kernel
theorem dX0_becomeWithoutPageOfBook_40 : decode cX0_becomeWithoutPageOfBook 40 = .ok (.iconst 1, 1) := by decide +kernel
theorem dX0_becomeWithoutPageOfBook_41 : decode cX0_becomeWithoutPageOfBook 41 = .ok (.isub, 1) := by decide +kernel
theorem dX0_becomeWithoutPageOfBook_42 : decode cX0_becomeWithoutPageOfBook 42 = .ok (.goto 5, 3) := by decide +kernel
theorem dX0_becomeWithoutPageOfBook_45 : decode cX0_becomeWithoutPageOfBook 45 = .ok (.iload 4, 2) := by decide +kernel
theorem dX0_becomeWithoutPageOfBook_47 : decode cX0_becomeWithoutPageOfBook 47 = .ok (.iload 5, 2) := by decide +kernel
theorem dX0_becomeWithoutPageOfBook_49 : decode cX0_becomeWithoutPageOfBook 49 = .ok (.iload_n 2, 1) := by decide +kernel
theorem dX0_becomeWithoutPageOfBook_50 : decode cX0_becomeWithoutPageOfBook 50 = .ok (.if_icmp .lt 10, 3) := by decide +kernel
theorem dX0_becomeWithoutPageOfBook_53 : decode cX0_becomeWithoutPageOfBook 53 = .ok (.iload 5, 2) := by decide +kernel
theorem dX0_becomeWithoutPageOfBook_55 : decode cX0_becomeWithoutPageOfBook 55 = .ok (.iconst 1, 1) := by decide +kernel
theorem dX0_becomeWithoutPageOfBook_56 : decode cX0_becomeWithoutPageOfBook 56 = .ok (.isub, 1) := by decide +kernel
theorem dX0_becomeWithoutPageOfBook_57 : decode cX0_becomeWithoutPageOfBook 57 = .ok (.goto 5, 3) := by decide +kernel
theorem dX0_becomeWithoutPageOfBook_60 : decode cX0_becomeWithoutPageOfBook 60 = .ok (.iload 5, 2) := by decide +kernel
theorem dX0_becomeWithoutPageOfBook_62 : decode cX0_becomeWithoutPageOfBook 62 = .ok (.invokevirtual 46, 3) := by decide +kernel
theorem dX0_becomeWithoutPageOfBook_65 : decode cX0_becomeWithoutPageOfBook 65 = .ok (.iinc 3 1, 3) := by decide +kernel
theorem dX0_becomeWithoutPageOfBook_68 : decode cX0_becomeWithoutPageOfBook 68 = .ok (.goto (-61), 3) := by decide +kernel
theorem dX0_becomeWithoutPageOfBook_71 : decode cX0_becomeWithoutPageOfBook 71 = .ok (.return_, 1) := by decide +kernel
set_option maxRecDepth 20000 in
theorem ggX0_appendUnlessEmpty_X0_append : GoodIn wsX0_appendUnlessEmpty wsX0_append := goodIn_r _ [5, 6, 7, 8, 9, 10, 11, 12, 13, 14, 15] (by decide +kernel) (by decide +kernel)
set_option maxRecDepth 20000 in
theorem gX0_appendUnlessEmpty_X0_append : GoodIn wsX0_appendUnlessEmpty (wsV RX0 31 RX0 yX0_append wsX0_append) := goodIn_app (goodIn_of _ (by decide +kernel)) ggX0_appendUnlessEmpty_X0_append
theorem dX0_appendUnlessEmpty_0 : decode cX0_appendUnlessEmpty 0 = .ok (.iload_n 1, 1) := by decide +kernel
theorem dX0_appendUnlessEmpty_1 : decode cX0_appendUnlessEmpty 1 = .ok (.iload_n 2, 1) := by decide +kernel
theorem dX0_appendUnlessEmpty_2 : decode cX0_appendUnlessEmpty 2 = .ok (.if_icmp .gt 10, 3) := by decide +kernel
theorem dX0_appendUnlessEmpty_5 : decode cX0_appendUnlessEmpty 5 = .ok (.aload_n 0, 1) := by decide +kernel
theorem dX0_appendUnlessEmpty_6 : decode cX0_appendUnlessEmpty 6 = .ok (.iload_n 1, 1) := by decide +kernel
theorem dX0_appendUnlessEmpty_7 : decode cX0_appendUnlessEmpty 7 = .ok (.iload_n 2, 1) := by decide +kernel
theorem dX0_appendUnlessEmpty_8 : decode cX0_appendUnlessEmpty 8 = .ok (.iconst 0, 1) := by decide +kernel
theorem dX0_appendUnlessEmpty_9 : decode cX0_appendUnlessEmpty 9 = .ok (.invokevirtual 31, 3) := by decide +kernel
theorem dX0_appendUnlessEmpty_12 : decode cX0_appendUnlessEmpty 12 = .ok (.return_, 1) := by decide +kernel
theorem dX0_moveOn_0 : decode cX0_moveOn 0 = .ok (.iconst 0, 1) := by decide +kernel
theorem dX0_moveOn_1 : decode cX0_moveOn 1 = .ok (.istore_n 3, 1) := by decide +kernel
theorem dX0_moveOn_2 : decode cX0_moveOn 2 = .ok (.iload_n 3, 1) := by decide +kernel
theorem dX0_moveOn_3 : decode cX0_moveOn 3 = .ok (.aload_n 0, 1) := by decide +kernel
theorem dX0_moveOn_4 : decode cX0_moveOn 4 = .ok (.getfield 18, 3) := by decide +kernel
theorem dX0_moveOn_7 : decode cX0_moveOn 7 = .ok (.if_icmp .ge 49, 3) := by decide +kernel
theorem dX0_moveOn_10 : decode cX0_moveOn 10 = .ok (.aload_n 0, 1) := by decide +kernel
theorem dX0_moveOn_11 : decode cX0_moveOn 11 = .ok (.getfield 9, 3) := by decide +kernel
theorem dX0_moveOn_14 : decode cX0_moveOn 14 = .ok (.iload_n 3, 1) := by decide +kernel
theorem dX0_moveOn_15 : decode cX0_moveOn 15 = .ok (.iaload, 1) := by decide +kernel
theorem dX0_moveOn_16 : decode cX0_moveOn 16 = .ok (.iload_n 1, 1) := by decide +kernel
theorem dX0_moveOn_17 : decode cX0_moveOn 17 = .ok (.if_icmp .lt 13, 3) := by decide +kernel
theorem dX0_moveOn_20 : decode cX0_moveOn 20 = .ok (.aload_n 0, 1) := by decide +kernel
theorem dX0_moveOn_21 : decode cX0_moveOn 21 = .ok (.getfield 9, 3) := by decide +kernel
theorem dX0_moveOn_24 : decode cX0_moveOn 24 = .ok (.iload_n 3, 1) := by decide +kernel
theorem dX0_moveOn_25 : decode cX0_moveOn 25 = .ok (.dup2, 1) := by decide +kernel
theorem dX0_moveOn_26 : decode cX0_moveOn 26 = .ok (.iaload, 1) := by decide +kernel
theorem dX0_moveOn_27 : decode cX0_moveOn 27 = .ok (.iload_n 2, 1) := by decide +kernel
theorem dX0_moveOn_28 : decode cX0_moveOn 28 = .ok (.iadd, 1) := by decide +kernel
theorem dX0_moveOn_29 : decode cX0_moveOn 29 = .ok (.iastore, 1) := by decide +kernel
theorem dX0_moveOn_30 : decode cX0_moveOn 30 = .ok (.aload_n 0, 1) := by decide +kernel
theorem dX0_moveOn_31 : decode cX0_moveOn 31 = .ok (.getfield 15, 3) := by decide +kernel
theorem dX0_moveOn_34 : decode cX0_moveOn 34 = .ok (.iload_n 3, 1) := by decide +kernel
theorem dX0_moveOn_35 : decode cX0_moveOn 35 = .ok (.iaload, 1) := by decide +kernel
theorem dX0_moveOn_36 : decode cX0_moveOn 36 = .ok (.iload_n 1, 1) := by decide +kernel
theorem dX0_moveOn_37 : decode cX0_moveOn 37 = .ok (.if_icmp .lt 13, 3) := by decide +kernel
theorem dX0_moveOn_40 : decode cX0_moveOn 40 = .ok (.aload_n 0, 1) := by decide +kernel
theorem dX0_moveOn_41 : decode cX0_moveOn 41 = .ok (.getfield 15, 3) := by decide +kernel
theorem dX0_moveOn_44 : decode cX0_moveOn 44 = .ok (.iload_n 3, 1) := by decide +kernel
theorem dX0_moveOn_45 : decode cX0_moveOn 45 = .ok (.dup2, 1) := by decide +kernel
theorem dX0_moveOn_46 : decode cX0_moveOn 46 = .ok (.iaload, 1) := by decide +kernel
theorem dX0_moveOn_47 : decode cX0_moveOn 47 = .ok (.iload_n 2, 1) := by decide +kernel
theorem dX0_moveOn_48 : decode cX0_moveOn 48 = .ok (.iadd, 1) := by decide +kernel
theorem dX0_moveOn_49 : decode cX0_moveOn 49 = .ok (.iastore, 1) := by decide +kernel
theorem dX0_moveOn_50 : decode cX0_moveOn 50 = .ok (.iinc 3 1, 3) := by decide +kernel
theorem dX0_moveOn_53 : decode cX0_moveOn 53 = .ok (.goto (-51), 3) := by decide +kernel
theorem dX0_moveOn_56 : decode cX0_moveOn 56 = .ok (.return_, 1) := by decide +kernel
end
section
set_option maxRecDepth 20000 in
theorem ggX1_init_X0_init : GoodIn wsX1_init wsX0_init := goodIn_r _ [19, 20, 2, 3, 8, 21, 22, 23, 33, 34, 35] (by decide +kernel) (by decide +kernel)
set_option maxRecDepth 20000 in
theorem gX1_init_X0_init : GoodIn wsX1_init (wsX0_init) := ggX1_init_X0_init
theorem dX1_init_0 : decode cX1_init 0 = .ok (.aload_n 0, 1) := by decide +kernel
theorem dX1_init_1 : decode cX1_init 1 = .ok (.invokespecial 3, 3) := by decide +kernel
theorem dX1_init_4 : decode cX1_init 4 = .ok (.aload_n 0, 1) := by decide +kernel
theorem dX1_init_5 : decode cX1_init 5 = .ok (.bipush 24, 2) := by decide +kernel
theorem dX1_init_7 : decode cX1_init 7 = .ok (.anewarray 9, 3) := by decide +kernel
theorem dX1_init_10 : decode cX1_init 10 = .ok (.putfield 11, 3) := by decide +kernel
theorem dX1_init_13 : decode cX1_init 13 = .ok (.iconst 0, 1) := by decide +kernel
theorem dX1_init_14 : decode cX1_init 14 = .ok (.istore_n 1, 1) := by decide +kernel
theorem dX1_init_15 : decode cX1_init 15 = .ok (.iload_n 1, 1) := by decide +kernel
theorem dX1_init_16 : decode cX1_init 16 = .ok (.bipush 24, 2) := by decide +kernel
theorem dX1_init_18 : decode cX1_init 18 = .ok (.if_icmp .ge 22, 3) := by decide +kernel
theorem dX1_init_21 : decode cX1_init 21 = .ok (.aload_n 0, 1) := by decide +kernel
theorem dX1_init_22 : decode cX1_init 22 = .ok (.getfield 11, 3) := by decide +kernel
theorem dX1_init_25 : decode cX1_init 25 = .ok (.iload_n 1, 1) := by decide +kernel
theorem dX1_init_26 : decode cX1_init 26 = .ok (.new 9, 3) := by decide +kernel
theorem dX1_init_29 : decode cX1_init 29 = .ok (.dup, 1) := by decide +kernel
theorem dX1_init_30 : decode cX1_init 30 = .ok (.invokespecial 15, 3) := by decide +kernel
theorem dX1_init_33 : decode cX1_init 33 = .ok (.aastore, 1) := by decide +kernel
theorem dX1_init_34 : decode cX1_init 34 = .ok (.iinc 1 1, 3) := by decide +kernel
theorem dX1_init_37 : decode cX1_init 37 = .ok (.goto (-22), 3) := by decide +kernel
theorem dX1_init_40 : decode cX1_init 40 = .ok (.aload_n 0, 1) := by decide +kernel
theorem dX1_init_41 : decode cX1_init 41 = .ok (.bipush 24, 2) := by decide +kernel
theorem dX1_init_43 : decode cX1_init 43 = .ok (.newarray .int, 2) := by decide +kernel
theorem dX1_init_45 : decode cX1_init 45 = .ok (.putfield 16, 3) := by decide +kernel
theorem dX1_init_48 : decode cX1_init 48 = .ok (.aload_n 0, 1) := by decide +kernel
theorem dX1_init_49 : decode cX1_init 49 = .ok (.bipush 24, 2) := by decide +kernel
theorem dX1_init_51 : decode cX1_init 51 = .ok (.newarray .int, 2) := by decide +kernel
theorem dX1_init_53 : decode cX1_init 53 = .ok (.putfield 20, 3) := by decide +kernel
theorem dX1_init_56 : decode cX1_init 56 = .ok (.aload_n 0, 1) := by decide +kernel
theorem dX1_init_57 : decode cX1_init 57 = .ok (.sipush 302, 3) := by decide +kernel
theorem dX1_init_60 : decode cX1_init 60 = .ok (.newarray .int, 2) := by decide +kernel
theorem dX1_init_62 : decode cX1_init 62 = .ok (.putfield 23, 3) := by decide +kernel
theorem dX1_init_65 : decode cX1_init 65 = .ok (.aload_n 0, 1) := by decide +kernel
theorem dX1_init_66 : decode cX1_init 66 = .ok (.new 9, 3) := by decide +kernel
theorem dX1_init_69 : decode cX1_init 69 = .ok (.dup, 1) := by decide +kernel
theorem dX1_init_70 : decode cX1_init 70 = .ok (.invokespecial 15, 3) := by decide +kernel
theorem dX1_init_73 : decode cX1_init 73 = .ok (.putfield 26, 3) := by decide +kernel
theorem dX1_init_76 : decode cX1_init 76 = .ok (.aload_n 0, 1) := by decide +kernel
theorem dX1_init_77 : decode cX1_init 77 = .ok (.new 9, 3) := by decide +kernel
theorem dX1_init_80 : decode cX1_init 80 = .ok (.dup, 1) := by decide +kernel
theorem dX1_init_81 : decode cX1_init 81 = .ok (.invokespecial 15, 3) := by decide +kernel
theorem dX1_init_84 : decode cX1_init 84 = .ok (.putfield 30, 3) := by decide +kernel
theorem dX1_init_87 : decode cX1_init 87 = .ok (.aload_n 0, 1) := by decide +kernel
theorem dX1_init_88 : decode cX1_init 88 = .ok (.new 9, 3) := by decide +kernel
theorem dX1_init_91 : decode cX1_init 91 = .ok (.dup, 1) := by decide +kernel
theorem dX1_init_92 : decode cX1_init 92 = .ok (.invokespecial 15, 3) := by decide +kernel
theorem dX1_init_95 : decode cX1_init 95 = .ok (.putfield 33, 3) := by decide +kernel
theorem dX1_init_98 : decode cX1_init 98 = .ok (.aload_n 0, 1) := by decide +kernel
theorem dX1_init_99 : decode cX1_init 99 = .ok (.iconst 0, 1) := by decide +kernel
theorem dX1_init_100 : decode cX1_init 100 = .ok (.putfield 36, 3) := by decide +kernel
theorem dX1_init_103 : decode cX1_init 103 = .ok (.aload_n 0, 1) := by decide +kernel
theorem dX1_init_104 : decode cX1_init 104 = .ok (.bipush 100, 2) := by decide +kernel
theorem dX1_init_106 : decode cX1_init 106 = .ok (.putfield 40, 3) := by decide +kernel
theorem dX1_init_109 : decode cX1_init 109 = .ok (.return_, 1) := by decide +kernel
theorem dX1_addHeading_0 : decode cX1_addHeading 0 = .ok (.aload_n 0, 1) := by decide +kernel
theorem dX1_addHeading_1 : decode cX1_addHeading 1 = .ok (.getfield 36, 3) := by decide +kernel
theorem dX1_addHeading_4 : decode cX1_addHeading 4 = .ok (.bipush 24, 2) := by decide +kernel
theorem dX1_addHeading_6 : decode cX1_addHeading 6 = .ok (.if_icmp .lt 13, 3) := by decide +kernel
theorem dX1_addHeading_9 : decode cX1_addHeading 9 = .ok (.new 43, 3) := by decide +kernel
theorem dX1_addHeading_12 : decode cX1_addHeading 12 = .ok (.dup, 1) := by decide +kernel
theorem dX1_addHeading_13 : decode cX1_addHeading 13 = .ok (.ldc 45, 2) := by decide +kernel
theorem dX1_addHeading_15 : decode cX1_addHeading 15 = .ok (.invokespecial 47, 3) := by decide +kernel
theorem dX1_addHeading_18 : decode cX1_addHeading 18 = .ok (.athrow, 1) := by decide +kernel
theorem dX1_addHeading_19 : decode cX1_addHeading 19 = .ok (.aload_n 0, 1) := by decide +kernel
theorem dX1_addHeading_20 : decode cX1_addHeading 20 = .ok (.getfield 36, 3) := by decide +kernel
theorem dX1_addHeading_23 : decode cX1_addHeading 23 = .ok (.istore_n 1, 1) := by decide +kernel
theorem dX1_addHeading_24 : decode cX1_addHeading 24 = .ok (.aload_n 0, 1) := by decide +kernel
theorem dX1_addHeading_25 : decode cX1_addHeading 25 = .ok (.getfield 16, 3) := by decide +kernel
theorem dX1_addHeading_28 : decode cX1_addHeading 28 = .ok (.iload_n 1, 1) := by decide +kernel
theorem dX1_addHeading_29 : decode cX1_addHeading 29 = .ok (.iconst (-1), 1) := by decide +kernel
theorem dX1_addHeading_30 : decode cX1_addHeading 30 = .ok (.iastore, 1) := by decide +kernel
theorem dX1_addHeading_31 : decode cX1_addHeading 31 = .ok (.aload_n 0, 1) := by decide +kernel
theorem dX1_addHeading_32 : decode cX1_addHeading 32 = .ok (.dup, 1) := by decide +kernel
theorem dX1_addHeading_33 : decode cX1_addHeading 33 = .ok (.getfield 36, 3) := by decide +kernel
theorem dX1_addHeading_36 : decode cX1_addHeading 36 = .ok (.iconst 1, 1) := by decide +kernel
theorem dX1_addHeading_37 : decode cX1_addHeading 37 = .ok (.iadd, 1) := by decide +kernel
theorem dX1_addHeading_38 : decode cX1_addHeading 38 = .ok (.putfield 36, 3) := by decide +kernel
theorem dX1_addHeading_41 : decode cX1_addHeading 41 = .ok (.iload_n 1, 1) := by decide +kernel
theorem dX1_addHeading_42 : decode cX1_addHeading 42 = .ok (.ireturn, 1) := by decide +kernel
set_option maxRecDepth 20000 in
theorem ggX1_addPages_X1_needHeading : GoodIn wsX1_addPages wsX1_needHeading := goodIn_ca (goodIn_r _ [9, 10, 11, 12, 13, 14, 8, 15, 16, 79, 80, 81, 82, 83, 84, 85, 86, 87] (by decide +kernel) (by decide +kernel)) (goodIn_sub (fun _ h => List.mem_cons_of_mem _ (List.mem_append_left _ (List.mem_append_right _ h))) (by decide +kernel))
set_option maxRecDepth 20000 in
theorem gX1_addPages_X1_needHeading : GoodIn wsX1_addPages (wsV RX1 50 RX1 yX1_needHeading wsX1_needHeading) := goodIn_app (goodIn_of _ (by decide +kernel)) ggX1_addPages_X1_needHeading
set_option maxRecDepth 20000 in
theorem ggX1_addPages_X1_needPages : GoodIn wsX1_addPages wsX1_needPages := goodIn_ca (goodIn_r _ [20, 21, 22, 23, 79, 80, 81, 82, 83, 84, 85, 86, 87] (by decide +kernel) (by decide +kernel)) (goodIn_sub (fun _ h => List.mem_cons_of_mem _ (List.mem_append_right _ h)) (by decide +kernel))
set_option maxRecDepth 20000 in
theorem gX1_addPages_X1_needPages : GoodIn wsX1_addPages (wsV RX1 54 RX1 yX1_needPages wsX1_needPages) := goodIn_app (goodIn_of _ (by decide +kernel)) ggX1_addPages_X1_needPages
set_option maxRecDepth 20000 in
theorem ggX1_addPages_X1_seeAt : GoodIn wsX1_addPages wsX1_seeAt := goodIn_r _ [27, 28, 12, 13, 14, 8, 15, 16, 79, 80, 81, 82, 83, 84, 85, 86, 87] (by decide +kernel) (by decide +kernel)
set_option maxRecDepth 20000 in
theorem gX1_addPages_X1_seeAt : GoodIn wsX1_addPages (wsV RX1 58 RX1 yX1_seeAt wsX1_seeAt) := goodIn_app (goodIn_of _ (by decide +kernel)) ggX1_addPages_X1_seeAt
set_option maxRecDepth 20000 in
theorem ggX1_addPages_X1_spansAt : GoodIn wsX1_addPages wsX1_spansAt := goodIn_r _ [32, 33, 34, 12, 13, 14, 8, 15, 16, 79, 80, 81, 82, 83, 84, 85, 86, 87] (by decide +kernel) (by decide +kernel)
set_option maxRecDepth 20000 in
theorem gX1_addPages_X1_spansAt : GoodIn wsX1_addPages (wsV RX1 64 RX1 yX1_spansAt wsX1_spansAt) := goodIn_app (goodIn_of _ (by decide +kernel)) ggX1_addPages_X1_spansAt
set_option maxRecDepth 20000 in
theorem ggX1_addPages_X0_becomeOne : GoodIn wsX1_addPages wsX0_becomeOne := goodIn_r _ [39, 40, 41, 42, 43, 38, 44, 45, 46, 47, 48, 49, 50, 88, 89, 90] (by decide +kernel) (by decide +kernel)
set_option maxRecDepth 20000 in
theorem gX1_addPages_X0_becomeOne : GoodIn wsX1_addPages (wsV RX1 68 RX0 yX0_becomeOne wsX0_becomeOne) := goodIn_app (goodIn_of _ (by decide +kernel)) ggX1_addPages_X0_becomeOne
set_option maxRecDepth 20000 in
theorem ggX1_addPages_X0_becomeUnion : GoodIn wsX1_addPages wsX0_becomeUnion := goodIn_r _ [54, 40, 50, 55, 56, 57, 38, 58, 59, 60, 61, 62, 45, 41, 42, 43, 44, 46, 47, 48, 49, 88, 89, 90] (by decide +kernel) (by decide +kernel)
set_option maxRecDepth 20000 in
theorem gX1_addPages_X0_becomeUnion : GoodIn wsX1_addPages (wsV RX1 71 RX0 yX0_becomeUnion wsX0_becomeUnion) := goodIn_app (goodIn_of _ (by decide +kernel)) ggX1_addPages_X0_becomeUnion
set_option maxRecDepth 20000 in
theorem ggX1_addPages_X1_needRoomForMade : GoodIn wsX1_addPages wsX1_needRoomForMade := goodIn_ca (goodIn_r _ [66, 1, 2, 4, 67, 68, 69, 38, 70, 40, 79, 80, 81, 82, 83, 84, 85, 86, 87, 88, 89, 90] (by decide +kernel) (by decide +kernel)) (goodIn_sub (fun _ h => List.mem_cons_of_mem _ (List.mem_append_left _ (List.mem_append_left _ (List.mem_append_right _ h)))) (by decide +kernel))
set_option maxRecDepth 20000 in
theorem gX1_addPages_X1_needRoomForMade : GoodIn wsX1_addPages (wsV RX1 75 RX1 yX1_needRoomForMade wsX1_needRoomForMade) := goodIn_app (goodIn_of _ (by decide +kernel)) ggX1_addPages_X1_needRoomForMade
set_option maxRecDepth 20000 in
theorem ggX1_addPages_X0_becomeSame : GoodIn wsX1_addPages wsX0_becomeSame := goodIn_r _ [74, 75, 76, 77, 38, 78, 40, 50, 45, 41, 42, 43, 44, 46, 47, 48, 49, 88, 89, 90] (by decide +kernel) (by decide +kernel)
set_option maxRecDepth 20000 in
theorem gX1_addPages_X0_becomeSame : GoodIn wsX1_addPages (wsV RX1 78 RX0 yX0_becomeSame wsX0_becomeSame) := goodIn_app (goodIn_of _ (by decide +kernel)) ggX1_addPages_X0_becomeSame
set_option maxRecDepth 20000 in
theorem ggX1_addPages_X0_count : GoodIn wsX1_addPages wsX0_count := goodIn_r _ [70, 40, 88, 89, 90] (by decide +kernel) (by decide +kernel)
set_option maxRecDepth 20000 in
theorem gX1_addPages_X0_count : GoodIn wsX1_addPages (wsV RX1 82 RX0 yX0_count wsX0_count) := goodIn_app (goodIn_of _ (by decide +kernel)) ggX1_addPages_X0_count
theorem dX1_addPages_0 : decode cX1_addPages 0 = .ok (.aload_n 0, 1) := by decide +kernel
theorem dX1_addPages_1 : decode cX1_addPages 1 = .ok (.iload_n 1, 1) := by decide +kernel
theorem dX1_addPages_2 : decode cX1_addPages 2 = .ok (.invokevirtual 50, 3) := by decide +kernel
theorem dX1_addPages_5 : decode cX1_addPages 5 = .ok (.aload_n 0, 1) := by decide +kernel
theorem dX1_addPages_6 : decode cX1_addPages 6 = .ok (.iload_n 2, 1) := by decide +kernel
theorem dX1_addPages_7 : decode cX1_addPages 7 = .ok (.iload_n 3, 1) := by decide +kernel
theorem dX1_addPages_8 : decode cX1_addPages 8 = .ok (.invokevirtual 54, 3) := by decide +kernel
theorem dX1_addPages_11 : decode cX1_addPages 11 = .ok (.aload_n 0, 1) := by decide +kernel
theorem dX1_addPages_12 : decode cX1_addPages 12 = .ok (.iload_n 1, 1) := by decide +kernel
theorem dX1_addPages_13 : decode cX1_addPages 13 = .ok (.invokevirtual 58, 3) := by decide +kernel
theorem dX1_addPages_16 : decode cX1_addPages 16 = .ok (.iconst (-1), 1) := by decide +kernel
theorem dX1_addPages_17 : decode cX1_addPages 17 = .ok (.if_icmp .eq 13, 3) := by decide +kernel
theorem dX1_addPages_20 : decode cX1_addPages 20 = .ok (.new 43, 3) := by decide +kernel
theorem dX1_addPages_23 : decode cX1_addPages 23 = .ok (.dup, 1) := by decide +kernel
theorem dX1_addPages_24 : decode cX1_addPages 24 = .ok (.ldc 62, 2) := by decide +kernel
theorem dX1_addPages_26 : decode cX1_addPages 26 = .ok (.invokespecial 47, 3) := by decide +kernel
theorem dX1_addPages_29 : decode cX1_addPages 29 = .ok (.athrow, 1) := by decide +kernel
theorem dX1_addPages_30 : decode cX1_addPages 30 = .ok (.aload_n 0, 1) := by decide +kernel
theorem dX1_addPages_31 : decode cX1_addPages 31 = .ok (.iload_n 1, 1) := by decide +kernel
theorem dX1_addPages_32 : decode cX1_addPages 32 = .ok (.invokevirtual 64, 3) := by decide +kernel
theorem dX1_addPages_35 : decode cX1_addPages 35 = .ok (.astore 4, 2) := by decide +kernel
theorem dX1_addPages_37 : decode cX1_addPages 37 = .ok (.aload_n 0, 1) := by decide +kernel
theorem dX1_addPages_38 : decode cX1_addPages 38 = .ok (.getfield 26, 3) := by decide +kernel
theorem dX1_addPages_41 : decode cX1_addPages 41 = .ok (.iload_n 2, 1) := by decide +kernel
theorem dX1_addPages_42 : decode cX1_addPages 42 = .ok (.iload_n 3, 1) := by decide +kernel
theorem dX1_addPages_43 : decode cX1_addPages 43 = .ok (.invokevirtual 68, 3) := by decide +kernel
theorem dX1_addPages_46 : decode cX1_addPages 46 = .ok (.aload_n 0, 1) := by decide +kernel
theorem dX1_addPages_47 : decode cX1_addPages 47 = .ok (.getfield 30, 3) := by decide +kernel
theorem dX1_addPages_50 : decode cX1_addPages 50 = .ok (.aload 4, 2) := by decide +kernel
theorem dX1_addPages_52 : decode cX1_addPages 52 = .ok (.aload_n 0, 1) := by decide +kernel
theorem dX1_addPages_53 : decode cX1_addPages 53 = .ok (.getfield 26, 3) := by decide +kernel
theorem dX1_addPages_56 : decode cX1_addPages 56 = .ok (.invokevirtual 71, 3) := by decide +kernel
theorem dX1_addPages_59 : decode cX1_addPages 59 = .ok (.aload_n 0, 1) := by decide +kernel
theorem dX1_addPages_60 : decode cX1_addPages 60 = .ok (.invokevirtual 75, 3) := by decide +kernel
theorem dX1_addPages_63 : decode cX1_addPages 63 = .ok (.aload 4, 2) := by decide +kernel
theorem dX1_addPages_65 : decode cX1_addPages 65 = .ok (.aload_n 0, 1) := by decide +kernel
theorem dX1_addPages_66 : decode cX1_addPages 66 = .ok (.getfield 30, 3) := by decide +kernel
theorem dX1_addPages_69 : decode cX1_addPages 69 = .ok (.invokevirtual 78, 3) := by decide +kernel
theorem dX1_addPages_72 : decode cX1_addPages 72 = .ok (.aload 4, 2) := by decide +kernel
theorem dX1_addPages_74 : decode cX1_addPages 74 = .ok (.invokevirtual 82, 3) := by decide +kernel
theorem dX1_addPages_77 : decode cX1_addPages 77 = .ok (.ireturn, 1) := by decide +kernel
set_option maxRecDepth 20000 in
theorem ggX1_takePages_X1_needHeading : GoodIn wsX1_takePages wsX1_needHeading := goodIn_ca (goodIn_r _ [6, 7, 8, 9, 10, 11, 5, 12, 13, 72, 73, 74, 75, 76, 77, 78, 79, 80] (by decide +kernel) (by decide +kernel)) (goodIn_sub (fun _ h => List.mem_cons_of_mem _ (List.mem_append_left _ (List.mem_append_left _ (List.mem_append_right _ h)))) (by decide +kernel))
set_option maxRecDepth 20000 in
theorem gX1_takePages_X1_needHeading : GoodIn wsX1_takePages (wsV RX1 50 RX1 yX1_needHeading wsX1_needHeading) := goodIn_app (goodIn_of _ (by decide +kernel)) ggX1_takePages_X1_needHeading
set_option maxRecDepth 20000 in
theorem ggX1_takePages_X1_needPages : GoodIn wsX1_takePages wsX1_needPages := goodIn_ca (goodIn_r _ [17, 18, 19, 20, 72, 73, 74, 75, 76, 77, 78, 79, 80] (by decide +kernel) (by decide +kernel)) (goodIn_sub (fun _ h => List.mem_cons_of_mem _ (List.mem_append_left _ (List.mem_append_right _ h))) (by decide +kernel))
set_option maxRecDepth 20000 in
theorem gX1_takePages_X1_needPages : GoodIn wsX1_takePages (wsV RX1 54 RX1 yX1_needPages wsX1_needPages) := goodIn_app (goodIn_of _ (by decide +kernel)) ggX1_takePages_X1_needPages
set_option maxRecDepth 20000 in
theorem ggX1_takePages_X1_spansAt : GoodIn wsX1_takePages wsX1_spansAt := goodIn_r _ [24, 25, 26, 9, 10, 11, 5, 12, 13, 72, 73, 74, 75, 76, 77, 78, 79, 80] (by decide +kernel) (by decide +kernel)
set_option maxRecDepth 20000 in
theorem gX1_takePages_X1_spansAt : GoodIn wsX1_takePages (wsV RX1 64 RX1 yX1_spansAt wsX1_spansAt) := goodIn_app (goodIn_of _ (by decide +kernel)) ggX1_takePages_X1_spansAt
set_option maxRecDepth 20000 in
theorem ggX1_takePages_X0_becomeRest : GoodIn wsX1_takePages wsX0_becomeRest := goodIn_r _ [31, 32, 33, 34, 35, 36, 37, 38, 39, 40, 41, 42, 43, 44, 30, 45, 46, 47, 48, 49, 81, 82, 83] (by decide +kernel) (by decide +kernel)
set_option maxRecDepth 20000 in
theorem gX1_takePages_X0_becomeRest : GoodIn wsX1_takePages (wsV RX1 86 RX0 yX0_becomeRest wsX0_becomeRest) := goodIn_app (goodIn_of _ (by decide +kernel)) ggX1_takePages_X0_becomeRest
set_option maxRecDepth 20000 in
theorem ggX1_takePages_X1_needRoomForMade : GoodIn wsX1_takePages wsX1_needRoomForMade := goodIn_ca (goodIn_r _ [53, 54, 55, 1, 56, 57, 58, 30, 59, 32, 72, 73, 74, 75, 76, 77, 78, 79, 80, 81, 82, 83] (by decide +kernel) (by decide +kernel)) (goodIn_sub (fun _ h => List.mem_cons_of_mem _ (List.mem_append_right _ h)) (by decide +kernel))
set_option maxRecDepth 20000 in
theorem gX1_takePages_X1_needRoomForMade : GoodIn wsX1_takePages (wsV RX1 75 RX1 yX1_needRoomForMade wsX1_needRoomForMade) := goodIn_app (goodIn_of _ (by decide +kernel)) ggX1_takePages_X1_needRoomForMade
set_option maxRecDepth 20000 in
theorem ggX1_takePages_X0_pages : GoodIn wsX1_takePages wsX0_pages := goodIn_r _ [63, 32, 34, 33, 81, 82, 83] (by decide +kernel) (by decide +kernel)
set_option maxRecDepth 20000 in
theorem gX1_takePages_X0_pages : GoodIn wsX1_takePages (wsV RX1 90 RX0 yX0_pages wsX0_pages) := goodIn_app (goodIn_of _ (by decide +kernel)) ggX1_takePages_X0_pages
set_option maxRecDepth 20000 in
theorem ggX1_takePages_X0_becomeSame : GoodIn wsX1_takePages wsX0_becomeSame := goodIn_r _ [67, 68, 69, 70, 30, 71, 32, 33, 34, 46, 47, 48, 49, 39, 40, 37, 41, 81, 82, 83] (by decide +kernel) (by decide +kernel)
set_option maxRecDepth 20000 in
theorem gX1_takePages_X0_becomeSame : GoodIn wsX1_takePages (wsV RX1 78 RX0 yX0_becomeSame wsX0_becomeSame) := goodIn_app (goodIn_of _ (by decide +kernel)) ggX1_takePages_X0_becomeSame
theorem dX1_takePages_0 : decode cX1_takePages 0 = .ok (.aload_n 0, 1) := by decide +kernel
theorem dX1_takePages_1 : decode cX1_takePages 1 = .ok (.iload_n 1, 1) := by decide +kernel
theorem dX1_takePages_2 : decode cX1_takePages 2 = .ok (.invokevirtual 50, 3) := by decide +kernel
theorem dX1_takePages_5 : decode cX1_takePages 5 = .ok (.aload_n 0, 1) := by decide +kernel
theorem dX1_takePages_6 : decode cX1_takePages 6 = .ok (.iload_n 2, 1) := by decide +kernel
theorem dX1_takePages_7 : decode cX1_takePages 7 = .ok (.iload_n 3, 1) := by decide +kernel
theorem dX1_takePages_8 : decode cX1_takePages 8 = .ok (.invokevirtual 54, 3) := by decide +kernel
theorem dX1_takePages_11 : decode cX1_takePages 11 = .ok (.aload_n 0, 1) := by decide +kernel
theorem dX1_takePages_12 : decode cX1_takePages 12 = .ok (.iload_n 1, 1) := by decide +kernel
theorem dX1_takePages_13 : decode cX1_takePages 13 = .ok (.invokevirtual 64, 3) := by decide +kernel
theorem dX1_takePages_16 : decode cX1_takePages 16 = .ok (.astore 4, 2) := by decide +kernel
theorem dX1_takePages_18 : decode cX1_takePages 18 = .ok (.aload_n 0, 1) := by decide +kernel
theorem dX1_takePages_19 : decode cX1_takePages 19 = .ok (.getfield 30, 3) := by decide +kernel
theorem dX1_takePages_22 : decode cX1_takePages 22 = .ok (.aload 4, 2) := by decide +kernel
theorem dX1_takePages_24 : decode cX1_takePages 24 = .ok (.iload_n 2, 1) := by decide +kernel
theorem dX1_takePages_25 : decode cX1_takePages 25 = .ok (.iload_n 3, 1) := by decide +kernel
theorem dX1_takePages_26 : decode cX1_takePages 26 = .ok (.invokevirtual 86, 3) := by decide +kernel
theorem dX1_takePages_29 : decode cX1_takePages 29 = .ok (.aload_n 0, 1) := by decide +kernel
theorem dX1_takePages_30 : decode cX1_takePages 30 = .ok (.invokevirtual 75, 3) := by decide +kernel
theorem dX1_takePages_33 : decode cX1_takePages 33 = .ok (.aload 4, 2) := by decide +kernel
theorem dX1_takePages_35 : decode cX1_takePages 35 = .ok (.invokevirtual 90, 3) := by decide +kernel
theorem dX1_takePages_38 : decode cX1_takePages 38 = .ok (.aload_n 0, 1) := by decide +kernel
theorem dX1_takePages_39 : decode cX1_takePages 39 = .ok (.getfield 30, 3) := by decide +kernel
theorem dX1_takePages_42 : decode cX1_takePages 42 = .ok (.invokevirtual 90, 3) := by decide +kernel
theorem dX1_takePages_45 : decode cX1_takePages 45 = .ok (.isub, 1) := by decide +kernel
theorem dX1_takePages_46 : decode cX1_takePages 46 = .ok (.istore 5, 2) := by decide +kernel
theorem dX1_takePages_48 : decode cX1_takePages 48 = .ok (.aload 4, 2) := by decide +kernel
theorem dX1_takePages_50 : decode cX1_takePages 50 = .ok (.aload_n 0, 1) := by decide +kernel
theorem dX1_takePages_51 : decode cX1_takePages 51 = .ok (.getfield 30, 3) := by decide +kernel
theorem dX1_takePages_54 : decode cX1_takePages 54 = .ok (.invokevirtual 78, 3) := by decide +kernel
theorem dX1_takePages_57 : decode cX1_takePages 57 = .ok (.iload 5, 2) := by decide +kernel
theorem dX1_takePages_59 : decode cX1_takePages 59 = .ok (.ireturn, 1) := by decide +kernel
set_option maxRecDepth 20000 in
theorem ggX1_setSee_X1_needHeading : GoodIn wsX1_setSee wsX1_needHeading := goodIn_ca (goodIn_r _ [6, 7, 8, 9, 10, 11, 5, 12, 13, 38, 39, 40, 41, 42, 43, 44, 45, 46] (by decide +kernel) (by decide +kernel)) (goodIn_sub (fun _ h => List.mem_cons_of_mem _ (List.mem_append_left _ (List.mem_append_left _ (List.mem_append_right _ h)))) (by decide +kernel))
set_option maxRecDepth 20000 in
theorem gX1_setSee_X1_needHeading : GoodIn wsX1_setSee (wsV RX1 50 RX1 yX1_needHeading wsX1_needHeading) := goodIn_app (goodIn_of _ (by decide +kernel)) ggX1_setSee_X1_needHeading
set_option maxRecDepth 20000 in
theorem ggX1_setSee_X1_needTwo : GoodIn wsX1_setSee wsX1_needTwo := goodIn_ca (goodIn_r _ [17, 18, 19] (by decide +kernel) (by decide +kernel)) (goodIn_sub (fun _ h => List.mem_cons_of_mem _ (List.mem_append_left _ (List.mem_append_right _ h))) (by decide +kernel))
set_option maxRecDepth 20000 in
theorem gX1_setSee_X1_needTwo : GoodIn wsX1_setSee (wsV RX1 93 RX1 yX1_needTwo wsX1_needTwo) := goodIn_app (goodIn_of _ (by decide +kernel)) ggX1_setSee_X1_needTwo
set_option maxRecDepth 20000 in
theorem ggX1_setSee_X1_needNoPages : GoodIn wsX1_setSee wsX1_needNoPages := goodIn_ca (goodIn_r _ [23, 24, 25, 26, 27, 28, 5, 29, 30, 31, 9, 10, 11, 12, 13, 32, 33, 34, 35, 36, 37, 38, 39, 40, 41, 42, 43, 44, 45, 46, 47, 48, 49] (by decide +kernel) (by decide +kernel)) (goodIn_sub (fun _ h => List.mem_cons_of_mem _ (List.mem_append_right _ h)) (by decide +kernel))
set_option maxRecDepth 20000 in
theorem gX1_setSee_X1_needNoPages : GoodIn wsX1_setSee (wsV RX1 96 RX1 yX1_needNoPages wsX1_needNoPages) := goodIn_app (goodIn_of _ (by decide +kernel)) ggX1_setSee_X1_needNoPages
theorem dX1_setSee_0 : decode cX1_setSee 0 = .ok (.aload_n 0, 1) := by decide +kernel
theorem dX1_setSee_1 : decode cX1_setSee 1 = .ok (.iload_n 1, 1) := by decide +kernel
theorem dX1_setSee_2 : decode cX1_setSee 2 = .ok (.invokevirtual 50, 3) := by decide +kernel
theorem dX1_setSee_5 : decode cX1_setSee 5 = .ok (.iload_n 2, 1) := by decide +kernel
theorem dX1_setSee_6 : decode cX1_setSee 6 = .ok (.iconst (-1), 1) := by decide +kernel
theorem dX1_setSee_7 : decode cX1_setSee 7 = .ok (.if_icmp .eq 19, 3) := by decide +kernel
theorem dX1_setSee_10 : decode cX1_setSee 10 = .ok (.aload_n 0, 1) := by decide +kernel
theorem dX1_setSee_11 : decode cX1_setSee 11 = .ok (.iload_n 2, 1) := by decide +kernel
theorem dX1_setSee_12 : decode cX1_setSee 12 = .ok (.invokevirtual 50, 3) := by decide +kernel
theorem dX1_setSee_15 : decode cX1_setSee 15 = .ok (.aload_n 0, 1) := by decide +kernel
theorem dX1_setSee_16 : decode cX1_setSee 16 = .ok (.iload_n 1, 1) := by decide +kernel
theorem dX1_setSee_17 : decode cX1_setSee 17 = .ok (.iload_n 2, 1) := by decide +kernel
theorem dX1_setSee_18 : decode cX1_setSee 18 = .ok (.invokevirtual 93, 3) := by decide +kernel
theorem dX1_setSee_21 : decode cX1_setSee 21 = .ok (.aload_n 0, 1) := by decide +kernel
theorem dX1_setSee_22 : decode cX1_setSee 22 = .ok (.iload_n 1, 1) := by decide +kernel
theorem dX1_setSee_23 : decode cX1_setSee 23 = .ok (.invokevirtual 96, 3) := by decide +kernel
theorem dX1_setSee_26 : decode cX1_setSee 26 = .ok (.aload_n 0, 1) := by decide +kernel
theorem dX1_setSee_27 : decode cX1_setSee 27 = .ok (.getfield 16, 3) := by decide +kernel
theorem dX1_setSee_30 : decode cX1_setSee 30 = .ok (.iload_n 1, 1) := by decide +kernel
theorem dX1_setSee_31 : decode cX1_setSee 31 = .ok (.iaload, 1) := by decide +kernel
theorem dX1_setSee_32 : decode cX1_setSee 32 = .ok (.istore_n 3, 1) := by decide +kernel
theorem dX1_setSee_33 : decode cX1_setSee 33 = .ok (.aload_n 0, 1) := by decide +kernel
theorem dX1_setSee_34 : decode cX1_setSee 34 = .ok (.getfield 16, 3) := by decide +kernel
theorem dX1_setSee_37 : decode cX1_setSee 37 = .ok (.iload_n 1, 1) := by decide +kernel
theorem dX1_setSee_38 : decode cX1_setSee 38 = .ok (.iload_n 2, 1) := by decide +kernel
theorem dX1_setSee_39 : decode cX1_setSee 39 = .ok (.iastore, 1) := by decide +kernel
theorem dX1_setSee_40 : decode cX1_setSee 40 = .ok (.iload_n 3, 1) := by decide +kernel
theorem dX1_setSee_41 : decode cX1_setSee 41 = .ok (.ireturn, 1) := by decide +kernel
set_option maxRecDepth 20000 in
theorem ggX1_turnSeeAlso_X1_needHeading : GoodIn wsX1_turnSeeAlso wsX1_needHeading := goodIn_ca (goodIn_r _ [8, 9, 10, 11, 12, 13, 7, 14, 15, 32, 33, 34, 35, 36, 37, 38, 39, 40] (by decide +kernel) (by decide +kernel)) (goodIn_sub (fun _ h => List.mem_cons_of_mem _ (List.mem_append_left _ (List.mem_append_right _ h))) (by decide +kernel))
set_option maxRecDepth 20000 in
theorem gX1_turnSeeAlso_X1_needHeading : GoodIn wsX1_turnSeeAlso (wsV RX1 50 RX1 yX1_needHeading wsX1_needHeading) := goodIn_app (goodIn_of _ (by decide +kernel)) ggX1_turnSeeAlso_X1_needHeading
set_option maxRecDepth 20000 in
theorem ggX1_turnSeeAlso_X1_needTwo : GoodIn wsX1_turnSeeAlso wsX1_needTwo := goodIn_ca (goodIn_r _ [19, 20, 21] (by decide +kernel) (by decide +kernel)) (goodIn_sub (fun _ h => List.mem_cons_of_mem _ (List.mem_append_right _ h)) (by decide +kernel))
set_option maxRecDepth 20000 in
theorem gX1_turnSeeAlso_X1_needTwo : GoodIn wsX1_turnSeeAlso (wsV RX1 93 RX1 yX1_needTwo wsX1_needTwo) := goodIn_app (goodIn_of _ (by decide +kernel)) ggX1_turnSeeAlso_X1_needTwo
set_option maxRecDepth 20000 in
theorem ggX1_turnSeeAlso_X1_only : GoodIn wsX1_turnSeeAlso wsX1_only := goodIn_r _ [24] (by decide +kernel) (by decide +kernel)
set_option maxRecDepth 20000 in
theorem gX1_turnSeeAlso_X1_only : GoodIn wsX1_turnSeeAlso (va_wsS RX1 99 yX1_only wsX1_only) := goodIn_app (goodIn_of _ (by decide +kernel)) ggX1_turnSeeAlso_X1_only
set_option maxRecDepth 20000 in
theorem ggX1_turnSeeAlso_J6_bitCount_0f7a4 : GoodIn wsX1_turnSeeAlso wsJ6_bitCount_0f7a4 := goodIn_r _ [28, 29, 30, 31] (by decide +kernel) (by decide +kernel)
set_option maxRecDepth 20000 in
theorem gX1_turnSeeAlso_J6_bitCount_0f7a4 : GoodIn wsX1_turnSeeAlso (va_wsS RX1 102 yJ6_bitCount_0f7a4 wsJ6_bitCount_0f7a4) := goodIn_app (goodIn_of _ (by decide +kernel)) ggX1_turnSeeAlso_J6_bitCount_0f7a4
theorem dX1_turnSeeAlso_0 : decode cX1_turnSeeAlso 0 = .ok (.aload_n 0, 1) := by decide +kernel
theorem dX1_turnSeeAlso_1 : decode cX1_turnSeeAlso 1 = .ok (.iload_n 1, 1) := by decide +kernel
theorem dX1_turnSeeAlso_2 : decode cX1_turnSeeAlso 2 = .ok (.invokevirtual 50, 3) := by decide +kernel
theorem dX1_turnSeeAlso_5 : decode cX1_turnSeeAlso 5 = .ok (.aload_n 0, 1) := by decide +kernel
theorem dX1_turnSeeAlso_6 : decode cX1_turnSeeAlso 6 = .ok (.iload_n 2, 1) := by decide +kernel
theorem dX1_turnSeeAlso_7 : decode cX1_turnSeeAlso 7 = .ok (.invokevirtual 50, 3) := by decide +kernel
theorem dX1_turnSeeAlso_10 : decode cX1_turnSeeAlso 10 = .ok (.aload_n 0, 1) := by decide +kernel
theorem dX1_turnSeeAlso_11 : decode cX1_turnSeeAlso 11 = .ok (.iload_n 1, 1) := by decide +kernel
theorem dX1_turnSeeAlso_12 : decode cX1_turnSeeAlso 12 = .ok (.iload_n 2, 1) := by decide +kernel
theorem dX1_turnSeeAlso_13 : decode cX1_turnSeeAlso 13 = .ok (.invokevirtual 93, 3) := by decide +kernel
theorem dX1_turnSeeAlso_16 : decode cX1_turnSeeAlso 16 = .ok (.aload_n 0, 1) := by decide +kernel
theorem dX1_turnSeeAlso_17 : decode cX1_turnSeeAlso 17 = .ok (.getfield 20, 3) := by decide +kernel
theorem dX1_turnSeeAlso_20 : decode cX1_turnSeeAlso 20 = .ok (.iload_n 1, 1) := by decide +kernel
theorem dX1_turnSeeAlso_21 : decode cX1_turnSeeAlso 21 = .ok (.iaload, 1) := by decide +kernel
theorem dX1_turnSeeAlso_22 : decode cX1_turnSeeAlso 22 = .ok (.iload_n 2, 1) := by decide +kernel
theorem dX1_turnSeeAlso_23 : decode cX1_turnSeeAlso 23 = .ok (.invokestatic 99, 3) := by decide +kernel
theorem dX1_turnSeeAlso_26 : decode cX1_turnSeeAlso 26 = .ok (.ixor, 1) := by decide +kernel
theorem dX1_turnSeeAlso_27 : decode cX1_turnSeeAlso 27 = .ok (.istore_n 3, 1) := by decide +kernel
theorem dX1_turnSeeAlso_28 : decode cX1_turnSeeAlso 28 = .ok (.iload_n 3, 1) := by decide +kernel
theorem dX1_turnSeeAlso_29 : decode cX1_turnSeeAlso 29 = .ok (.invokestatic 102, 3) := by decide +kernel
theorem dX1_turnSeeAlso_32 : decode cX1_turnSeeAlso 32 = .ok (.iconst 4, 1) := by decide +kernel
theorem dX1_turnSeeAlso_33 : decode cX1_turnSeeAlso 33 = .ok (.if_icmp .le 13, 3) := by decide +kernel
theorem dX1_turnSeeAlso_36 : decode cX1_turnSeeAlso 36 = .ok (.new 43, 3) := by decide +kernel
theorem dX1_turnSeeAlso_39 : decode cX1_turnSeeAlso 39 = .ok (.dup, 1) := by decide +kernel
theorem dX1_turnSeeAlso_40 : decode cX1_turnSeeAlso 40 = .ok (.ldc 107, 2) := by decide +kernel
theorem dX1_turnSeeAlso_42 : decode cX1_turnSeeAlso 42 = .ok (.invokespecial 47, 3) := by decide +kernel
theorem dX1_turnSeeAlso_45 : decode cX1_turnSeeAlso 45 = .ok (.athrow, 1) := by decide +kernel
theorem dX1_turnSeeAlso_46 : decode cX1_turnSeeAlso 46 = .ok (.aload_n 0, 1) := by decide +kernel
theorem dX1_turnSeeAlso_47 : decode cX1_turnSeeAlso 47 = .ok (.getfield 20, 3) := by decide +kernel
theorem dX1_turnSeeAlso_50 : decode cX1_turnSeeAlso 50 = .ok (.iload_n 1, 1) := by decide +kernel
theorem dX1_turnSeeAlso_51 : decode cX1_turnSeeAlso 51 = .ok (.iload_n 3, 1) := by decide +kernel
theorem dX1_turnSeeAlso_52 : decode cX1_turnSeeAlso 52 = .ok (.iastore, 1) := by decide +kernel
theorem dX1_turnSeeAlso_53 : decode cX1_turnSeeAlso 53 = .ok (.iload_n 3, 1) := by decide +kernel
theorem dX1_turnSeeAlso_54 : decode cX1_turnSeeAlso 54 = .ok (.invokestatic 102, 3) := by decide +kernel
theorem dX1_turnSeeAlso_57 : decode cX1_turnSeeAlso 57 = .ok (.ireturn, 1) := by decide +kernel
set_option maxRecDepth 20000 in
theorem ggX1_putIn_X1_spansAt : GoodIn wsX1_putIn wsX1_spansAt := goodIn_r _ [11, 12, 13, 14, 15, 16, 10, 17, 6, 26, 27, 28, 29, 30, 31, 32, 33, 34] (by decide +kernel) (by decide +kernel)
set_option maxRecDepth 20000 in
theorem gX1_putIn_X1_spansAt : GoodIn wsX1_putIn (wsV RX1 64 RX1 yX1_spansAt wsX1_spansAt) := goodIn_app (goodIn_of _ (by decide +kernel)) ggX1_putIn_X1_spansAt
set_option maxRecDepth 20000 in
theorem ggX1_putIn_X0_moveOn : GoodIn wsX1_putIn wsX0_moveOn := goodIn_r _ [22, 23, 24, 25, 35, 36, 37] (by decide +kernel) (by decide +kernel)
set_option maxRecDepth 20000 in
theorem gX1_putIn_X0_moveOn : GoodIn wsX1_putIn (wsV RX1 118 RX0 yX0_moveOn wsX0_moveOn) := goodIn_app (goodIn_of _ (by decide +kernel)) ggX1_putIn_X0_moveOn
theorem dX1_putIn_0 : decode cX1_putIn 0 = .ok (.iload_n 1, 1) := by decide +kernel
theorem dX1_putIn_1 : decode cX1_putIn 1 = .ok (.iconst 1, 1) := by decide +kernel
theorem dX1_putIn_2 : decode cX1_putIn 2 = .ok (.if_icmp .lt 13, 3) := by decide +kernel
theorem dX1_putIn_5 : decode cX1_putIn 5 = .ok (.iload_n 1, 1) := by decide +kernel
theorem dX1_putIn_6 : decode cX1_putIn 6 = .ok (.aload_n 0, 1) := by decide +kernel
theorem dX1_putIn_7 : decode cX1_putIn 7 = .ok (.getfield 40, 3) := by decide +kernel
theorem dX1_putIn_10 : decode cX1_putIn 10 = .ok (.iconst 1, 1) := by decide +kernel
theorem dX1_putIn_11 : decode cX1_putIn 11 = .ok (.iadd, 1) := by decide +kernel
theorem dX1_putIn_12 : decode cX1_putIn 12 = .ok (.if_icmp .le 13, 3) := by decide +kernel
theorem dX1_putIn_15 : decode cX1_putIn 15 = .ok (.new 109, 3) := by decide +kernel
theorem dX1_putIn_18 : decode cX1_putIn 18 = .ok (.dup, 1) := by decide +kernel
theorem dX1_putIn_19 : decode cX1_putIn 19 = .ok (.ldc 111, 2) := by decide +kernel
theorem dX1_putIn_21 : decode cX1_putIn 21 = .ok (.invokespecial 113, 3) := by decide +kernel
theorem dX1_putIn_24 : decode cX1_putIn 24 = .ok (.athrow, 1) := by decide +kernel
theorem dX1_putIn_25 : decode cX1_putIn 25 = .ok (.iload_n 2, 1) := by decide +kernel
theorem dX1_putIn_26 : decode cX1_putIn 26 = .ok (.iconst 1, 1) := by decide +kernel
theorem dX1_putIn_27 : decode cX1_putIn 27 = .ok (.if_icmp .lt 9, 3) := by decide +kernel
theorem dX1_putIn_30 : decode cX1_putIn 30 = .ok (.iload_n 2, 1) := by decide +kernel
theorem dX1_putIn_31 : decode cX1_putIn 31 = .ok (.bipush 100, 2) := by decide +kernel
theorem dX1_putIn_33 : decode cX1_putIn 33 = .ok (.if_icmp .le 13, 3) := by decide +kernel
theorem dX1_putIn_36 : decode cX1_putIn 36 = .ok (.new 109, 3) := by decide +kernel
theorem dX1_putIn_39 : decode cX1_putIn 39 = .ok (.dup, 1) := by decide +kernel
theorem dX1_putIn_40 : decode cX1_putIn 40 = .ok (.ldc 114, 2) := by decide +kernel
theorem dX1_putIn_42 : decode cX1_putIn 42 = .ok (.invokespecial 113, 3) := by decide +kernel
theorem dX1_putIn_45 : decode cX1_putIn 45 = .ok (.athrow, 1) := by decide +kernel
theorem dX1_putIn_46 : decode cX1_putIn 46 = .ok (.aload_n 0, 1) := by decide +kernel
theorem dX1_putIn_47 : decode cX1_putIn 47 = .ok (.getfield 40, 3) := by decide +kernel
theorem dX1_putIn_50 : decode cX1_putIn 50 = .ok (.iload_n 2, 1) := by decide +kernel
theorem dX1_putIn_51 : decode cX1_putIn 51 = .ok (.iadd, 1) := by decide +kernel
theorem dX1_putIn_52 : decode cX1_putIn 52 = .ok (.sipush 300, 3) := by decide +kernel
theorem dX1_putIn_55 : decode cX1_putIn 55 = .ok (.if_icmp .le 13, 3) := by decide +kernel
theorem dX1_putIn_58 : decode cX1_putIn 58 = .ok (.new 43, 3) := by decide +kernel
theorem dX1_putIn_61 : decode cX1_putIn 61 = .ok (.dup, 1) := by decide +kernel
theorem dX1_putIn_62 : decode cX1_putIn 62 = .ok (.ldc 116, 2) := by decide +kernel
theorem dX1_putIn_64 : decode cX1_putIn 64 = .ok (.invokespecial 47, 3) := by decide +kernel
theorem dX1_putIn_67 : decode cX1_putIn 67 = .ok (.athrow, 1) := by decide +kernel
theorem dX1_putIn_68 : decode cX1_putIn 68 = .ok (.iconst 0, 1) := by decide +kernel
theorem dX1_putIn_69 : decode cX1_putIn 69 = .ok (.istore_n 3, 1) := by decide +kernel
theorem dX1_putIn_70 : decode cX1_putIn 70 = .ok (.iload_n 3, 1) := by decide +kernel
theorem dX1_putIn_71 : decode cX1_putIn 71 = .ok (.aload_n 0, 1) := by decide +kernel
theorem dX1_putIn_72 : decode cX1_putIn 72 = .ok (.getfield 36, 3) := by decide +kernel
theorem dX1_putIn_75 : decode cX1_putIn 75 = .ok (.if_icmp .ge 19, 3) := by decide +kernel
theorem dX1_putIn_78 : decode cX1_putIn 78 = .ok (.aload_n 0, 1) := by decide +kernel
theorem dX1_putIn_79 : decode cX1_putIn 79 = .ok (.iload_n 3, 1) := by decide +kernel
theorem dX1_putIn_80 : decode cX1_putIn 80 = .ok (.invokevirtual 64, 3) := by decide +kernel
theorem dX1_putIn_83 : decode cX1_putIn 83 = .ok (.iload_n 1, 1) := by decide +kernel
theorem dX1_putIn_84 : decode cX1_putIn 84 = .ok (.iload_n 2, 1) := by decide +kernel
theorem dX1_putIn_85 : decode cX1_putIn 85 = .ok (.invokevirtual 118, 3) := by decide +kernel
theorem dX1_putIn_88 : decode cX1_putIn 88 = .ok (.iinc 3 1, 3) := by decide +kernel
theorem dX1_putIn_91 : decode cX1_putIn 91 = .ok (.goto (-21), 3) := by decide +kernel
theorem dX1_putIn_94 : decode cX1_putIn 94 = .ok (.aload_n 0, 1) := by decide +kernel
theorem dX1_putIn_95 : decode cX1_putIn 95 = .ok (.dup, 1) := by decide +kernel
theorem dX1_putIn_96 : decode cX1_putIn 96 = .ok (.getfield 40, 3) := by decide +kernel
theorem dX1_putIn_99 : decode cX1_putIn 99 = .ok (.iload_n 2, 1) := by decide +kernel
theorem dX1_putIn_100 : decode cX1_putIn 100 = .ok (.iadd, 1) := by decide +kernel
theorem dX1_putIn_101 : decode cX1_putIn 101 = .ok (.putfield 40, 3) := by decide +kernel
theorem dX1_putIn_104 : decode cX1_putIn 104 = .ok (.aload_n 0, 1) := by decide +kernel
theorem dX1_putIn_105 : decode cX1_putIn 105 = .ok (.getfield 40, 3) := by decide +kernel
theorem dX1_putIn_108 : decode cX1_putIn 108 = .ok (.ireturn, 1) := by decide +kernel
set_option maxRecDepth 20000 in
theorem ggX1_takeOut_X1_needPage : GoodIn wsX1_takeOut wsX1_needPage := goodIn_ca (goodIn_r _ [10, 11, 12, 3, 59, 60, 61, 62, 63, 64, 65, 66, 67] (by decide +kernel) (by decide +kernel)) (goodIn_sub (fun _ h => List.mem_cons_of_mem _ (List.mem_append_right _ h)) (by decide +kernel))
set_option maxRecDepth 20000 in
theorem gX1_takeOut_X1_needPage : GoodIn wsX1_takeOut (wsV RX1 121 RX1 yX1_needPage wsX1_needPage) := goodIn_app (goodIn_of _ (by decide +kernel)) ggX1_takeOut_X1_needPage
set_option maxRecDepth 20000 in
theorem ggX1_takeOut_X1_countHeadingsOn : GoodIn wsX1_takeOut wsX1_countHeadingsOn := goodIn_r _ [16, 4, 17, 18, 19, 9, 20, 21, 22, 23, 24, 25, 26, 27, 28, 29, 30, 31, 32, 33, 34, 59, 60, 61, 62, 63, 64, 65, 66, 67, 68, 69, 70] (by decide +kernel) (by decide +kernel)
set_option maxRecDepth 20000 in
theorem gX1_takeOut_X1_countHeadingsOn : GoodIn wsX1_takeOut (wsV RX1 126 RX1 yX1_countHeadingsOn wsX1_countHeadingsOn) := goodIn_app (goodIn_of _ (by decide +kernel)) ggX1_takeOut_X1_countHeadingsOn
set_option maxRecDepth 20000 in
theorem ggX1_takeOut_X1_spansAt : GoodIn wsX1_takeOut wsX1_spansAt := goodIn_r _ [20, 21, 22, 23, 24, 25, 9, 26, 4, 59, 60, 61, 62, 63, 64, 65, 66, 67] (by decide +kernel) (by decide +kernel)
set_option maxRecDepth 20000 in
theorem gX1_takeOut_X1_spansAt : GoodIn wsX1_takeOut (wsV RX1 64 RX1 yX1_spansAt wsX1_spansAt) := goodIn_app (goodIn_of _ (by decide +kernel)) ggX1_takeOut_X1_spansAt
set_option maxRecDepth 20000 in
theorem ggX1_takeOut_X0_becomeWithoutPageOfBook : GoodIn wsX1_takeOut wsX0_becomeWithoutPageOfBook := goodIn_r _ [38, 32, 33, 34, 39, 40, 41, 30, 42, 43, 44, 45, 46, 47, 48, 49, 50, 68, 69, 70] (by decide +kernel) (by decide +kernel)
set_option maxRecDepth 20000 in
theorem gX1_takeOut_X0_becomeWithoutPageOfBook : GoodIn wsX1_takeOut (wsV RX1 129 RX0 yX0_becomeWithoutPageOfBook wsX0_becomeWithoutPageOfBook) := goodIn_app (goodIn_of _ (by decide +kernel)) ggX1_takeOut_X0_becomeWithoutPageOfBook
set_option maxRecDepth 20000 in
theorem ggX1_takeOut_X0_becomeSame : GoodIn wsX1_takeOut wsX0_becomeSame := goodIn_r _ [54, 55, 56, 57, 30, 58, 32, 33, 34, 43, 44, 45, 46, 47, 48, 49, 50, 68, 69, 70] (by decide +kernel) (by decide +kernel)
set_option maxRecDepth 20000 in
theorem gX1_takeOut_X0_becomeSame : GoodIn wsX1_takeOut (wsV RX1 78 RX0 yX0_becomeSame wsX0_becomeSame) := goodIn_app (goodIn_of _ (by decide +kernel)) ggX1_takeOut_X0_becomeSame
theorem dX1_takeOut_0 : decode cX1_takeOut 0 = .ok (.aload_n 0, 1) := by decide +kernel
theorem dX1_takeOut_1 : decode cX1_takeOut 1 = .ok (.iload_n 1, 1) := by decide +kernel
theorem dX1_takeOut_2 : decode cX1_takeOut 2 = .ok (.invokevirtual 121, 3) := by decide +kernel
theorem dX1_takeOut_5 : decode cX1_takeOut 5 = .ok (.aload_n 0, 1) := by decide +kernel
theorem dX1_takeOut_6 : decode cX1_takeOut 6 = .ok (.getfield 40, 3) := by decide +kernel
theorem dX1_takeOut_9 : decode cX1_takeOut 9 = .ok (.iconst 1, 1) := by decide +kernel
theorem dX1_takeOut_10 : decode cX1_takeOut 10 = .ok (.if_icmp .gt 13, 3) := by decide +kernel
theorem dX1_takeOut_13 : decode cX1_takeOut 13 = .ok (.new 43, 3) := by decide +kernel
theorem dX1_takeOut_16 : decode cX1_takeOut 16 = .ok (.dup, 1) := by decide +kernel
theorem dX1_takeOut_17 : decode cX1_takeOut 17 = .ok (.ldc 124, 2) := by decide +kernel
theorem dX1_takeOut_19 : decode cX1_takeOut 19 = .ok (.invokespecial 47, 3) := by decide +kernel
theorem dX1_takeOut_22 : decode cX1_takeOut 22 = .ok (.athrow, 1) := by decide +kernel
theorem dX1_takeOut_23 : decode cX1_takeOut 23 = .ok (.aload_n 0, 1) := by decide +kernel
theorem dX1_takeOut_24 : decode cX1_takeOut 24 = .ok (.iload_n 1, 1) := by decide +kernel
theorem dX1_takeOut_25 : decode cX1_takeOut 25 = .ok (.invokevirtual 126, 3) := by decide +kernel
theorem dX1_takeOut_28 : decode cX1_takeOut 28 = .ok (.istore_n 2, 1) := by decide +kernel
theorem dX1_takeOut_29 : decode cX1_takeOut 29 = .ok (.iconst 0, 1) := by decide +kernel
theorem dX1_takeOut_30 : decode cX1_takeOut 30 = .ok (.istore_n 3, 1) := by decide +kernel
theorem dX1_takeOut_31 : decode cX1_takeOut 31 = .ok (.iload_n 3, 1) := by decide +kernel
theorem dX1_takeOut_32 : decode cX1_takeOut 32 = .ok (.aload_n 0, 1) := by decide +kernel
theorem dX1_takeOut_33 : decode cX1_takeOut 33 = .ok (.getfield 36, 3) := by decide +kernel
theorem dX1_takeOut_36 : decode cX1_takeOut 36 = .ok (.if_icmp .ge 35, 3) := by decide +kernel
theorem dX1_takeOut_39 : decode cX1_takeOut 39 = .ok (.aload_n 0, 1) := by decide +kernel
theorem dX1_takeOut_40 : decode cX1_takeOut 40 = .ok (.iload_n 3, 1) := by decide +kernel
theorem dX1_takeOut_41 : decode cX1_takeOut 41 = .ok (.invokevirtual 64, 3) := by decide +kernel
theorem dX1_takeOut_44 : decode cX1_takeOut 44 = .ok (.astore 4, 2) := by decide +kernel
theorem dX1_takeOut_46 : decode cX1_takeOut 46 = .ok (.aload_n 0, 1) := by decide +kernel
theorem dX1_takeOut_47 : decode cX1_takeOut 47 = .ok (.getfield 30, 3) := by decide +kernel
theorem dX1_takeOut_50 : decode cX1_takeOut 50 = .ok (.aload 4, 2) := by decide +kernel
theorem dX1_takeOut_52 : decode cX1_takeOut 52 = .ok (.iload_n 1, 1) := by decide +kernel
theorem dX1_takeOut_53 : decode cX1_takeOut 53 = .ok (.invokevirtual 129, 3) := by decide +kernel
theorem dX1_takeOut_56 : decode cX1_takeOut 56 = .ok (.aload 4, 2) := by decide +kernel
theorem dX1_takeOut_58 : decode cX1_takeOut 58 = .ok (.aload_n 0, 1) := by decide +kernel
theorem dX1_takeOut_59 : decode cX1_takeOut 59 = .ok (.getfield 30, 3) := by decide +kernel
theorem dX1_takeOut_62 : decode cX1_takeOut 62 = .ok (.invokevirtual 78, 3) := by decide +kernel
theorem dX1_takeOut_65 : decode cX1_takeOut 65 = .ok (.iinc 3 1, 3) := by decide +kernel
theorem dX1_takeOut_68 : decode cX1_takeOut 68 = .ok (.goto (-37), 3) := by decide +kernel
theorem dX1_takeOut_71 : decode cX1_takeOut 71 = .ok (.aload_n 0, 1) := by decide +kernel
theorem dX1_takeOut_72 : decode cX1_takeOut 72 = .ok (.dup, 1) := by decide +kernel
theorem dX1_takeOut_73 : decode cX1_takeOut 73 = .ok (.getfield 40, 3) := by decide +kernel
theorem dX1_takeOut_76 : decode cX1_takeOut 76 = .ok (.iconst 1, 1) := by decide +kernel
theorem dX1_takeOut_77 : decode cX1_takeOut 77 = .ok (.isub, 1) := by decide +kernel
theorem dX1_takeOut_78 : decode cX1_takeOut 78 = .ok (.putfield 40, 3) := by decide +kernel
theorem dX1_takeOut_81 : decode cX1_takeOut 81 = .ok (.iload_n 2, 1) := by decide +kernel
theorem dX1_takeOut_82 : decode cX1_takeOut 82 = .ok (.ireturn, 1) := by decide +kernel
theorem dX1_bookPages_0 : decode cX1_bookPages 0 = .ok (.aload_n 0, 1) := by decide +kernel
theorem dX1_bookPages_1 : decode cX1_bookPages 1 = .ok (.getfield 40, 3) := by decide +kernel
theorem dX1_bookPages_4 : decode cX1_bookPages 4 = .ok (.ireturn, 1) := by decide +kernel
theorem dX1_headings_0 : decode cX1_headings 0 = .ok (.aload_n 0, 1) := by decide +kernel
theorem dX1_headings_1 : decode cX1_headings 1 = .ok (.getfield 36, 3) := by decide +kernel
theorem dX1_headings_4 : decode cX1_headings 4 = .ok (.ireturn, 1) := by decide +kernel
set_option maxRecDepth 20000 in
theorem ggX1_spansOf_X1_needHeading : GoodIn wsX1_spansOf wsX1_needHeading := goodIn_ca (goodIn_r _ [5, 6, 7, 8, 9, 10, 4, 11, 12, 25, 26, 27, 28, 29, 30, 31, 32, 33] (by decide +kernel) (by decide +kernel)) (goodIn_sub (fun _ h => List.mem_cons_of_mem _ (List.mem_append_right _ h)) (by decide +kernel))
set_option maxRecDepth 20000 in
theorem gX1_spansOf_X1_needHeading : GoodIn wsX1_spansOf (wsV RX1 50 RX1 yX1_needHeading wsX1_needHeading) := goodIn_app (goodIn_of _ (by decide +kernel)) ggX1_spansOf_X1_needHeading
set_option maxRecDepth 20000 in
theorem ggX1_spansOf_X1_spansAt : GoodIn wsX1_spansOf wsX1_spansAt := goodIn_r _ [16, 17, 18, 8, 9, 10, 4, 11, 12, 25, 26, 27, 28, 29, 30, 31, 32, 33] (by decide +kernel) (by decide +kernel)
set_option maxRecDepth 20000 in
theorem gX1_spansOf_X1_spansAt : GoodIn wsX1_spansOf (wsV RX1 64 RX1 yX1_spansAt wsX1_spansAt) := goodIn_app (goodIn_of _ (by decide +kernel)) ggX1_spansOf_X1_spansAt
set_option maxRecDepth 20000 in
theorem ggX1_spansOf_X0_count : GoodIn wsX1_spansOf wsX0_count := goodIn_r _ [23, 24, 34, 35, 36] (by decide +kernel) (by decide +kernel)
set_option maxRecDepth 20000 in
theorem gX1_spansOf_X0_count : GoodIn wsX1_spansOf (wsV RX1 82 RX0 yX0_count wsX0_count) := goodIn_app (goodIn_of _ (by decide +kernel)) ggX1_spansOf_X0_count
theorem dX1_spansOf_0 : decode cX1_spansOf 0 = .ok (.aload_n 0, 1) := by decide +kernel
theorem dX1_spansOf_1 : decode cX1_spansOf 1 = .ok (.iload_n 1, 1) := by decide +kernel
theorem dX1_spansOf_2 : decode cX1_spansOf 2 = .ok (.invokevirtual 50, 3) := by decide +kernel
theorem dX1_spansOf_5 : decode cX1_spansOf 5 = .ok (.aload_n 0, 1) := by decide +kernel
theorem dX1_spansOf_6 : decode cX1_spansOf 6 = .ok (.iload_n 1, 1) := by decide +kernel
theorem dX1_spansOf_7 : decode cX1_spansOf 7 = .ok (.invokevirtual 64, 3) := by decide +kernel
theorem dX1_spansOf_10 : decode cX1_spansOf 10 = .ok (.invokevirtual 82, 3) := by decide +kernel
theorem dX1_spansOf_13 : decode cX1_spansOf 13 = .ok (.ireturn, 1) := by decide +kernel
set_option maxRecDepth 20000 in
theorem ggX1_startOf_X1_needHeading : GoodIn wsX1_startOf wsX1_needHeading := goodIn_ca (goodIn_r _ [5, 6, 7, 8, 9, 10, 4, 11, 12, 34, 35, 36, 37, 38, 39, 40, 41, 42] (by decide +kernel) (by decide +kernel)) (goodIn_sub (fun _ h => List.mem_cons_of_mem _ (List.mem_append_right _ h)) (by decide +kernel))
set_option maxRecDepth 20000 in
theorem gX1_startOf_X1_needHeading : GoodIn wsX1_startOf (wsV RX1 50 RX1 yX1_needHeading wsX1_needHeading) := goodIn_app (goodIn_of _ (by decide +kernel)) ggX1_startOf_X1_needHeading
set_option maxRecDepth 20000 in
theorem ggX1_startOf_X1_needSpan : GoodIn wsX1_startOf wsX1_needSpan := goodIn_ca (goodIn_r _ [16, 6, 7, 17, 18, 19, 4, 20, 21, 22, 8, 9, 10, 11, 12, 23, 24, 25, 26, 27, 28, 34, 35, 36, 37, 38, 39, 40, 41, 42, 43, 44, 45] (by decide +kernel) (by decide +kernel)) (goodIn_sub (fun _ h => List.mem_cons_of_mem _ (List.mem_append_right _ h)) (by decide +kernel))
set_option maxRecDepth 20000 in
theorem gX1_startOf_X1_needSpan : GoodIn wsX1_startOf (wsV RX1 133 RX1 yX1_needSpan wsX1_needSpan) := goodIn_app (goodIn_of _ (by decide +kernel)) ggX1_startOf_X1_needSpan
set_option maxRecDepth 20000 in
theorem ggX1_startOf_X1_spansAt : GoodIn wsX1_startOf wsX1_spansAt := goodIn_r _ [20, 21, 22, 8, 9, 10, 4, 11, 12, 34, 35, 36, 37, 38, 39, 40, 41, 42] (by decide +kernel) (by decide +kernel)
set_option maxRecDepth 20000 in
theorem gX1_startOf_X1_spansAt : GoodIn wsX1_startOf (wsV RX1 64 RX1 yX1_spansAt wsX1_spansAt) := goodIn_app (goodIn_of _ (by decide +kernel)) ggX1_startOf_X1_spansAt
set_option maxRecDepth 20000 in
theorem ggX1_startOf_X0_first : GoodIn wsX1_startOf wsX0_first := goodIn_r _ [32, 28, 33, 43, 44, 45] (by decide +kernel) (by decide +kernel)
set_option maxRecDepth 20000 in
theorem gX1_startOf_X0_first : GoodIn wsX1_startOf (wsV RX1 136 RX0 yX0_first wsX0_first) := goodIn_app (goodIn_of _ (by decide +kernel)) ggX1_startOf_X0_first
theorem dX1_startOf_0 : decode cX1_startOf 0 = .ok (.aload_n 0, 1) := by decide +kernel
theorem dX1_startOf_1 : decode cX1_startOf 1 = .ok (.iload_n 1, 1) := by decide +kernel
theorem dX1_startOf_2 : decode cX1_startOf 2 = .ok (.invokevirtual 50, 3) := by decide +kernel
theorem dX1_startOf_5 : decode cX1_startOf 5 = .ok (.aload_n 0, 1) := by decide +kernel
theorem dX1_startOf_6 : decode cX1_startOf 6 = .ok (.iload_n 1, 1) := by decide +kernel
theorem dX1_startOf_7 : decode cX1_startOf 7 = .ok (.iload_n 2, 1) := by decide +kernel
theorem dX1_startOf_8 : decode cX1_startOf 8 = .ok (.invokevirtual 133, 3) := by decide +kernel
theorem dX1_startOf_11 : decode cX1_startOf 11 = .ok (.aload_n 0, 1) := by decide +kernel
theorem dX1_startOf_12 : decode cX1_startOf 12 = .ok (.iload_n 1, 1) := by decide +kernel
theorem dX1_startOf_13 : decode cX1_startOf 13 = .ok (.invokevirtual 64, 3) := by decide +kernel
theorem dX1_startOf_16 : decode cX1_startOf 16 = .ok (.iload_n 2, 1) := by decide +kernel
theorem dX1_startOf_17 : decode cX1_startOf 17 = .ok (.invokevirtual 136, 3) := by decide +kernel
theorem dX1_startOf_20 : decode cX1_startOf 20 = .ok (.ireturn, 1) := by decide +kernel
set_option maxRecDepth 20000 in
theorem ggX1_endOf_X1_needHeading : GoodIn wsX1_endOf wsX1_needHeading := goodIn_ca (goodIn_r _ [5, 6, 7, 8, 9, 10, 4, 11, 12, 34, 35, 36, 37, 38, 39, 40, 41, 42] (by decide +kernel) (by decide +kernel)) (goodIn_sub (fun _ h => List.mem_cons_of_mem _ (List.mem_append_right _ h)) (by decide +kernel))
set_option maxRecDepth 20000 in
theorem gX1_endOf_X1_needHeading : GoodIn wsX1_endOf (wsV RX1 50 RX1 yX1_needHeading wsX1_needHeading) := goodIn_app (goodIn_of _ (by decide +kernel)) ggX1_endOf_X1_needHeading
set_option maxRecDepth 20000 in
theorem ggX1_endOf_X1_needSpan : GoodIn wsX1_endOf wsX1_needSpan := goodIn_ca (goodIn_r _ [16, 6, 7, 17, 18, 19, 4, 20, 21, 22, 8, 9, 10, 11, 12, 23, 24, 25, 26, 27, 28, 34, 35, 36, 37, 38, 39, 40, 41, 42, 43, 44, 45] (by decide +kernel) (by decide +kernel)) (goodIn_sub (fun _ h => List.mem_cons_of_mem _ (List.mem_append_right _ h)) (by decide +kernel))
set_option maxRecDepth 20000 in
theorem gX1_endOf_X1_needSpan : GoodIn wsX1_endOf (wsV RX1 133 RX1 yX1_needSpan wsX1_needSpan) := goodIn_app (goodIn_of _ (by decide +kernel)) ggX1_endOf_X1_needSpan
set_option maxRecDepth 20000 in
theorem ggX1_endOf_X1_spansAt : GoodIn wsX1_endOf wsX1_spansAt := goodIn_r _ [20, 21, 22, 8, 9, 10, 4, 11, 12, 34, 35, 36, 37, 38, 39, 40, 41, 42] (by decide +kernel) (by decide +kernel)
set_option maxRecDepth 20000 in
theorem gX1_endOf_X1_spansAt : GoodIn wsX1_endOf (wsV RX1 64 RX1 yX1_spansAt wsX1_spansAt) := goodIn_app (goodIn_of _ (by decide +kernel)) ggX1_endOf_X1_spansAt
set_option maxRecDepth 20000 in
theorem ggX1_endOf_X0_last : GoodIn wsX1_endOf wsX0_last := goodIn_r _ [32, 28, 33, 43, 44, 45] (by decide +kernel) (by decide +kernel)
set_option maxRecDepth 20000 in
theorem gX1_endOf_X0_last : GoodIn wsX1_endOf (wsV RX1 139 RX0 yX0_last wsX0_last) := goodIn_app (goodIn_of _ (by decide +kernel)) ggX1_endOf_X0_last
theorem dX1_endOf_0 : decode cX1_endOf 0 = .ok (.aload_n 0, 1) := by decide +kernel
theorem dX1_endOf_1 : decode cX1_endOf 1 = .ok (.iload_n 1, 1) := by decide +kernel
theorem dX1_endOf_2 : decode cX1_endOf 2 = .ok (.invokevirtual 50, 3) := by decide +kernel
theorem dX1_endOf_5 : decode cX1_endOf 5 = .ok (.aload_n 0, 1) := by decide +kernel
theorem dX1_endOf_6 : decode cX1_endOf 6 = .ok (.iload_n 1, 1) := by decide +kernel
theorem dX1_endOf_7 : decode cX1_endOf 7 = .ok (.iload_n 2, 1) := by decide +kernel
theorem dX1_endOf_8 : decode cX1_endOf 8 = .ok (.invokevirtual 133, 3) := by decide +kernel
theorem dX1_endOf_11 : decode cX1_endOf 11 = .ok (.aload_n 0, 1) := by decide +kernel
theorem dX1_endOf_12 : decode cX1_endOf 12 = .ok (.iload_n 1, 1) := by decide +kernel
theorem dX1_endOf_13 : decode cX1_endOf 13 = .ok (.invokevirtual 64, 3) := by decide +kernel
theorem dX1_endOf_16 : decode cX1_endOf 16 = .ok (.iload_n 2, 1) := by decide +kernel
theorem dX1_endOf_17 : decode cX1_endOf 17 = .ok (.invokevirtual 139, 3) := by decide +kernel
theorem dX1_endOf_20 : decode cX1_endOf 20 = .ok (.ireturn, 1) := by decide +kernel
set_option maxRecDepth 20000 in
theorem ggX1_pagesOf_X1_needHeading : GoodIn wsX1_pagesOf wsX1_needHeading := goodIn_ca (goodIn_r _ [5, 6, 7, 8, 9, 10, 4, 11, 12, 27, 28, 29, 30, 31, 32, 33, 34, 35] (by decide +kernel) (by decide +kernel)) (goodIn_sub (fun _ h => List.mem_cons_of_mem _ (List.mem_append_right _ h)) (by decide +kernel))
set_option maxRecDepth 20000 in
theorem gX1_pagesOf_X1_needHeading : GoodIn wsX1_pagesOf (wsV RX1 50 RX1 yX1_needHeading wsX1_needHeading) := goodIn_app (goodIn_of _ (by decide +kernel)) ggX1_pagesOf_X1_needHeading
set_option maxRecDepth 20000 in
theorem ggX1_pagesOf_X1_spansAt : GoodIn wsX1_pagesOf wsX1_spansAt := goodIn_r _ [16, 17, 18, 8, 9, 10, 4, 11, 12, 27, 28, 29, 30, 31, 32, 33, 34, 35] (by decide +kernel) (by decide +kernel)
set_option maxRecDepth 20000 in
theorem gX1_pagesOf_X1_spansAt : GoodIn wsX1_pagesOf (wsV RX1 64 RX1 yX1_spansAt wsX1_spansAt) := goodIn_app (goodIn_of _ (by decide +kernel)) ggX1_pagesOf_X1_spansAt
set_option maxRecDepth 20000 in
theorem ggX1_pagesOf_X0_pages : GoodIn wsX1_pagesOf wsX0_pages := goodIn_r _ [23, 24, 25, 26, 36, 37, 38] (by decide +kernel) (by decide +kernel)
set_option maxRecDepth 20000 in
theorem gX1_pagesOf_X0_pages : GoodIn wsX1_pagesOf (wsV RX1 90 RX0 yX0_pages wsX0_pages) := goodIn_app (goodIn_of _ (by decide +kernel)) ggX1_pagesOf_X0_pages
theorem dX1_pagesOf_0 : decode cX1_pagesOf 0 = .ok (.aload_n 0, 1) := by decide +kernel
theorem dX1_pagesOf_1 : decode cX1_pagesOf 1 = .ok (.iload_n 1, 1) := by decide +kernel
theorem dX1_pagesOf_2 : decode cX1_pagesOf 2 = .ok (.invokevirtual 50, 3) := by decide +kernel
theorem dX1_pagesOf_5 : decode cX1_pagesOf 5 = .ok (.aload_n 0, 1) := by decide +kernel
theorem dX1_pagesOf_6 : decode cX1_pagesOf 6 = .ok (.iload_n 1, 1) := by decide +kernel
theorem dX1_pagesOf_7 : decode cX1_pagesOf 7 = .ok (.invokevirtual 64, 3) := by decide +kernel
theorem dX1_pagesOf_10 : decode cX1_pagesOf 10 = .ok (.invokevirtual 90, 3) := by decide +kernel
theorem dX1_pagesOf_13 : decode cX1_pagesOf 13 = .ok (.ireturn, 1) := by decide +kernel
set_option maxRecDepth 20000 in
theorem ggX1_seeOf_X1_needHeading : GoodIn wsX1_seeOf wsX1_needHeading := goodIn_ca (goodIn_r _ [5, 6, 7, 8, 9, 10, 4, 11, 12, 18, 19, 20, 21, 22, 23, 24, 25, 26] (by decide +kernel) (by decide +kernel)) (goodIn_sub (fun _ h => List.mem_cons_of_mem _ (List.mem_append_right _ h)) (by decide +kernel))
set_option maxRecDepth 20000 in
theorem gX1_seeOf_X1_needHeading : GoodIn wsX1_seeOf (wsV RX1 50 RX1 yX1_needHeading wsX1_needHeading) := goodIn_app (goodIn_of _ (by decide +kernel)) ggX1_seeOf_X1_needHeading
set_option maxRecDepth 20000 in
theorem ggX1_seeOf_X1_seeAt : GoodIn wsX1_seeOf wsX1_seeAt := goodIn_r _ [16, 17, 8, 9, 10, 4, 11, 12, 18, 19, 20, 21, 22, 23, 24, 25, 26] (by decide +kernel) (by decide +kernel)
set_option maxRecDepth 20000 in
theorem gX1_seeOf_X1_seeAt : GoodIn wsX1_seeOf (wsV RX1 58 RX1 yX1_seeAt wsX1_seeAt) := goodIn_app (goodIn_of _ (by decide +kernel)) ggX1_seeOf_X1_seeAt
theorem dX1_seeOf_0 : decode cX1_seeOf 0 = .ok (.aload_n 0, 1) := by decide +kernel
theorem dX1_seeOf_1 : decode cX1_seeOf 1 = .ok (.iload_n 1, 1) := by decide +kernel
theorem dX1_seeOf_2 : decode cX1_seeOf 2 = .ok (.invokevirtual 50, 3) := by decide +kernel
theorem dX1_seeOf_5 : decode cX1_seeOf 5 = .ok (.aload_n 0, 1) := by decide +kernel
theorem dX1_seeOf_6 : decode cX1_seeOf 6 = .ok (.iload_n 1, 1) := by decide +kernel
theorem dX1_seeOf_7 : decode cX1_seeOf 7 = .ok (.invokevirtual 58, 3) := by decide +kernel
theorem dX1_seeOf_10 : decode cX1_seeOf 10 = .ok (.ireturn, 1) := by decide +kernel
set_option maxRecDepth 20000 in
theorem ggX1_seeAlsosOf_X1_needHeading : GoodIn wsX1_seeAlsosOf wsX1_needHeading := goodIn_ca (goodIn_r _ [5, 6, 7, 8, 9, 10, 4, 11, 12, 25, 26, 27, 28, 29, 30, 31, 32, 33] (by decide +kernel) (by decide +kernel)) (goodIn_sub (fun _ h => List.mem_cons_of_mem _ (List.mem_append_right _ h)) (by decide +kernel))
set_option maxRecDepth 20000 in
theorem gX1_seeAlsosOf_X1_needHeading : GoodIn wsX1_seeAlsosOf (wsV RX1 50 RX1 yX1_needHeading wsX1_needHeading) := goodIn_app (goodIn_of _ (by decide +kernel)) ggX1_seeAlsosOf_X1_needHeading
set_option maxRecDepth 20000 in
theorem ggX1_seeAlsosOf_X1_countSeeAlsos : GoodIn wsX1_seeAlsosOf wsX1_countSeeAlsos := goodIn_r _ [16, 17, 8, 9, 10, 4, 11, 12, 18, 19, 20, 21, 22, 23, 24, 25, 26, 27, 28, 29, 30, 31, 32, 33] (by decide +kernel) (by decide +kernel)
set_option maxRecDepth 20000 in
theorem gX1_seeAlsosOf_X1_countSeeAlsos : GoodIn wsX1_seeAlsosOf (wsV RX1 142 RX1 yX1_countSeeAlsos wsX1_countSeeAlsos) := goodIn_app (goodIn_of _ (by decide +kernel)) ggX1_seeAlsosOf_X1_countSeeAlsos
theorem dX1_seeAlsosOf_0 : decode cX1_seeAlsosOf 0 = .ok (.aload_n 0, 1) := by decide +kernel
theorem dX1_seeAlsosOf_1 : decode cX1_seeAlsosOf 1 = .ok (.iload_n 1, 1) := by decide +kernel
theorem dX1_seeAlsosOf_2 : decode cX1_seeAlsosOf 2 = .ok (.invokevirtual 50, 3) := by decide +kernel
theorem dX1_seeAlsosOf_5 : decode cX1_seeAlsosOf 5 = .ok (.aload_n 0, 1) := by decide +kernel
theorem dX1_seeAlsosOf_6 : decode cX1_seeAlsosOf 6 = .ok (.iload_n 1, 1) := by decide +kernel
theorem dX1_seeAlsosOf_7 : decode cX1_seeAlsosOf 7 = .ok (.invokevirtual 142, 3) := by decide +kernel
theorem dX1_seeAlsosOf_10 : decode cX1_seeAlsosOf 10 = .ok (.ireturn, 1) := by decide +kernel
set_option maxRecDepth 20000 in
theorem ggX1_isOn_X1_needHeading : GoodIn wsX1_isOn wsX1_needHeading := goodIn_ca (goodIn_r _ [5, 6, 7, 8, 9, 10, 4, 11, 12, 34, 35, 36, 37, 38, 39, 40, 41, 42] (by decide +kernel) (by decide +kernel)) (goodIn_sub (fun _ h => List.mem_cons_of_mem _ (List.mem_append_left _ (List.mem_append_right _ h))) (by decide +kernel))
set_option maxRecDepth 20000 in
theorem gX1_isOn_X1_needHeading : GoodIn wsX1_isOn (wsV RX1 50 RX1 yX1_needHeading wsX1_needHeading) := goodIn_app (goodIn_of _ (by decide +kernel)) ggX1_isOn_X1_needHeading
set_option maxRecDepth 20000 in
theorem ggX1_isOn_X1_needPage : GoodIn wsX1_isOn wsX1_needPage := goodIn_ca (goodIn_r _ [16, 17, 18, 19, 34, 35, 36, 37, 38, 39, 40, 41, 42] (by decide +kernel) (by decide +kernel)) (goodIn_sub (fun _ h => List.mem_cons_of_mem _ (List.mem_append_right _ h)) (by decide +kernel))
set_option maxRecDepth 20000 in
theorem gX1_isOn_X1_needPage : GoodIn wsX1_isOn (wsV RX1 121 RX1 yX1_needPage wsX1_needPage) := goodIn_app (goodIn_of _ (by decide +kernel)) ggX1_isOn_X1_needPage
set_option maxRecDepth 20000 in
theorem ggX1_isOn_X1_spansAt : GoodIn wsX1_isOn wsX1_spansAt := goodIn_r _ [23, 24, 25, 8, 9, 10, 4, 11, 12, 34, 35, 36, 37, 38, 39, 40, 41, 42] (by decide +kernel) (by decide +kernel)
set_option maxRecDepth 20000 in
theorem gX1_isOn_X1_spansAt : GoodIn wsX1_isOn (wsV RX1 64 RX1 yX1_spansAt wsX1_spansAt) := goodIn_app (goodIn_of _ (by decide +kernel)) ggX1_isOn_X1_spansAt
set_option maxRecDepth 20000 in
theorem ggX1_isOn_X0_has : GoodIn wsX1_isOn wsX0_has := goodIn_r _ [30, 31, 32, 33, 43, 44, 45] (by decide +kernel) (by decide +kernel)
set_option maxRecDepth 20000 in
theorem gX1_isOn_X0_has : GoodIn wsX1_isOn (wsV RX1 145 RX0 yX0_has wsX0_has) := goodIn_app (goodIn_of _ (by decide +kernel)) ggX1_isOn_X0_has
theorem dX1_isOn_0 : decode cX1_isOn 0 = .ok (.aload_n 0, 1) := by decide +kernel
theorem dX1_isOn_1 : decode cX1_isOn 1 = .ok (.iload_n 1, 1) := by decide +kernel
theorem dX1_isOn_2 : decode cX1_isOn 2 = .ok (.invokevirtual 50, 3) := by decide +kernel
theorem dX1_isOn_5 : decode cX1_isOn 5 = .ok (.aload_n 0, 1) := by decide +kernel
theorem dX1_isOn_6 : decode cX1_isOn 6 = .ok (.iload_n 2, 1) := by decide +kernel
theorem dX1_isOn_7 : decode cX1_isOn 7 = .ok (.invokevirtual 121, 3) := by decide +kernel
theorem dX1_isOn_10 : decode cX1_isOn 10 = .ok (.aload_n 0, 1) := by decide +kernel
theorem dX1_isOn_11 : decode cX1_isOn 11 = .ok (.iload_n 1, 1) := by decide +kernel
theorem dX1_isOn_12 : decode cX1_isOn 12 = .ok (.invokevirtual 64, 3) := by decide +kernel
theorem dX1_isOn_15 : decode cX1_isOn 15 = .ok (.iload_n 2, 1) := by decide +kernel
theorem dX1_isOn_16 : decode cX1_isOn 16 = .ok (.invokevirtual 145, 3) := by decide +kernel
theorem dX1_isOn_19 : decode cX1_isOn 19 = .ok (.ireturn, 1) := by decide +kernel
set_option maxRecDepth 20000 in
theorem ggX1_headingsOn_X1_needPage : GoodIn wsX1_headingsOn wsX1_needPage := goodIn_ca (goodIn_r _ [5, 6, 7, 8, 32, 33, 34, 35, 36, 37, 38, 39, 40] (by decide +kernel) (by decide +kernel)) (goodIn_sub (fun _ h => List.mem_cons_of_mem _ (List.mem_append_right _ h)) (by decide +kernel))
set_option maxRecDepth 20000 in
theorem gX1_headingsOn_X1_needPage : GoodIn wsX1_headingsOn (wsV RX1 121 RX1 yX1_needPage wsX1_needPage) := goodIn_app (goodIn_of _ (by decide +kernel)) ggX1_headingsOn_X1_needPage
set_option maxRecDepth 20000 in
theorem ggX1_headingsOn_X1_countHeadingsOn : GoodIn wsX1_headingsOn wsX1_countHeadingsOn := goodIn_r _ [12, 13, 14, 15, 16, 4, 17, 18, 19, 20, 21, 22, 23, 24, 25, 26, 27, 28, 29, 30, 31, 32, 33, 34, 35, 36, 37, 38, 39, 40, 41, 42, 43] (by decide +kernel) (by decide +kernel)
set_option maxRecDepth 20000 in
theorem gX1_headingsOn_X1_countHeadingsOn : GoodIn wsX1_headingsOn (wsV RX1 126 RX1 yX1_countHeadingsOn wsX1_countHeadingsOn) := goodIn_app (goodIn_of _ (by decide +kernel)) ggX1_headingsOn_X1_countHeadingsOn
theorem dX1_headingsOn_0 : decode cX1_headingsOn 0 = .ok (.aload_n 0, 1) := by decide +kernel
theorem dX1_headingsOn_1 : decode cX1_headingsOn 1 = .ok (.iload_n 1, 1) := by decide +kernel
theorem dX1_headingsOn_2 : decode cX1_headingsOn 2 = .ok (.invokevirtual 121, 3) := by decide +kernel
theorem dX1_headingsOn_5 : decode cX1_headingsOn 5 = .ok (.aload_n 0, 1) := by decide +kernel
theorem dX1_headingsOn_6 : decode cX1_headingsOn 6 = .ok (.iload_n 1, 1) := by decide +kernel
theorem dX1_headingsOn_7 : decode cX1_headingsOn 7 = .ok (.invokevirtual 126, 3) := by decide +kernel
theorem dX1_headingsOn_10 : decode cX1_headingsOn 10 = .ok (.ireturn, 1) := by decide +kernel
set_option maxRecDepth 20000 in
theorem ggX1_barePages_X1_tallyHeadingsByPage : GoodIn wsX1_barePages wsX1_tallyHeadingsByPage := goodIn_r _ [7, 2, 8, 9, 10, 11, 6, 12, 13, 14, 15, 16, 17, 18, 19, 20, 21, 22, 23, 24, 25, 26, 27, 28, 29, 30, 31, 32, 33, 34, 35, 36, 37, 38, 39, 40, 41, 42, 43, 44, 45, 46, 47, 48, 49, 50, 51, 52, 53, 54] (by decide +kernel) (by decide +kernel)
set_option maxRecDepth 20000 in
theorem gX1_barePages_X1_tallyHeadingsByPage : GoodIn wsX1_barePages (wsV RX1 149 RX1 yX1_tallyHeadingsByPage wsX1_tallyHeadingsByPage) := goodIn_app (goodIn_of _ (by decide +kernel)) ggX1_barePages_X1_tallyHeadingsByPage
theorem dX1_barePages_0 : decode cX1_barePages 0 = .ok (.aload_n 0, 1) := by decide +kernel
theorem dX1_barePages_1 : decode cX1_barePages 1 = .ok (.invokevirtual 149, 3) := by decide +kernel
theorem dX1_barePages_4 : decode cX1_barePages 4 = .ok (.iconst 0, 1) := by decide +kernel
theorem dX1_barePages_5 : decode cX1_barePages 5 = .ok (.istore_n 1, 1) := by decide +kernel
theorem dX1_barePages_6 : decode cX1_barePages 6 = .ok (.iconst 1, 1) := by decide +kernel
theorem dX1_barePages_7 : decode cX1_barePages 7 = .ok (.istore_n 2, 1) := by decide +kernel
theorem dX1_barePages_8 : decode cX1_barePages 8 = .ok (.iload_n 2, 1) := by decide +kernel
theorem dX1_barePages_9 : decode cX1_barePages 9 = .ok (.aload_n 0, 1) := by decide +kernel
theorem dX1_barePages_10 : decode cX1_barePages 10 = .ok (.getfield 40, 3) := by decide +kernel
theorem dX1_barePages_13 : decode cX1_barePages 13 = .ok (.if_icmp .gt 21, 3) := by decide +kernel
theorem dX1_barePages_16 : decode cX1_barePages 16 = .ok (.aload_n 0, 1) := by decide +kernel
theorem dX1_barePages_17 : decode cX1_barePages 17 = .ok (.getfield 23, 3) := by decide +kernel
theorem dX1_barePages_20 : decode cX1_barePages 20 = .ok (.iload_n 2, 1) := by decide +kernel
theorem dX1_barePages_21 : decode cX1_barePages 21 = .ok (.iaload, 1) := by decide +kernel
theorem dX1_barePages_22 : decode cX1_barePages 22 = .ok (.ifCond .ne 6, 3) := by decide +kernel
theorem dX1_barePages_25 : decode cX1_barePages 25 = .ok (.iinc 1 1, 3) := by decide +kernel
theorem dX1_barePages_28 : decode cX1_barePages 28 = .ok (.iinc 2 1, 3) := by decide +kernel
theorem dX1_barePages_31 : decode cX1_barePages 31 = .ok (.goto (-23), 3) := by decide +kernel
theorem dX1_barePages_34 : decode cX1_barePages 34 = .ok (.iload_n 1, 1) := by decide +kernel
theorem dX1_barePages_35 : decode cX1_barePages 35 = .ok (.ireturn, 1) := by decide +kernel
set_option maxRecDepth 20000 in
theorem ggX1_fullestPage_X1_tallyHeadingsByPage : GoodIn wsX1_fullestPage wsX1_tallyHeadingsByPage := goodIn_r _ [7, 2, 8, 9, 10, 11, 6, 12, 13, 14, 15, 16, 17, 18, 19, 20, 21, 22, 23, 24, 25, 26, 27, 28, 29, 30, 31, 32, 33, 34, 35, 36, 37, 38, 39, 40, 41, 42, 43, 44, 45, 46, 47, 48, 49, 50, 51, 52, 53, 54] (by decide +kernel) (by decide +kernel)
set_option maxRecDepth 20000 in
theorem gX1_fullestPage_X1_tallyHeadingsByPage : GoodIn wsX1_fullestPage (wsV RX1 149 RX1 yX1_tallyHeadingsByPage wsX1_tallyHeadingsByPage) := goodIn_app (goodIn_of _ (by decide +kernel)) ggX1_fullestPage_X1_tallyHeadingsByPage
theorem dX1_fullestPage_0 : decode cX1_fullestPage 0 = .ok (.aload_n 0, 1) := by decide +kernel
theorem dX1_fullestPage_1 : decode cX1_fullestPage 1 = .ok (.invokevirtual 149, 3) := by decide +kernel
theorem dX1_fullestPage_4 : decode cX1_fullestPage 4 = .ok (.iconst 1, 1) := by decide +kernel
theorem dX1_fullestPage_5 : decode cX1_fullestPage 5 = .ok (.istore_n 1, 1) := by decide +kernel
theorem dX1_fullestPage_6 : decode cX1_fullestPage 6 = .ok (.iconst 2, 1) := by decide +kernel
theorem dX1_fullestPage_7 : decode cX1_fullestPage 7 = .ok (.istore_n 2, 1) := by decide +kernel
theorem dX1_fullestPage_8 : decode cX1_fullestPage 8 = .ok (.iload_n 2, 1) := by decide +kernel
theorem dX1_fullestPage_9 : decode cX1_fullestPage 9 = .ok (.aload_n 0, 1) := by decide +kernel
theorem dX1_fullestPage_10 : decode cX1_fullestPage 10 = .ok (.getfield 40, 3) := by decide +kernel
theorem dX1_fullestPage_13 : decode cX1_fullestPage 13 = .ok (.if_icmp .gt 26, 3) := by decide +kernel
theorem dX1_fullestPage_16 : decode cX1_fullestPage 16 = .ok (.aload_n 0, 1) := by decide +kernel
theorem dX1_fullestPage_17 : decode cX1_fullestPage 17 = .ok (.getfield 23, 3) := by decide +kernel
theorem dX1_fullestPage_20 : decode cX1_fullestPage 20 = .ok (.iload_n 2, 1) := by decide +kernel
theorem dX1_fullestPage_21 : decode cX1_fullestPage 21 = .ok (.iaload, 1) := by decide +kernel
theorem dX1_fullestPage_22 : decode cX1_fullestPage 22 = .ok (.aload_n 0, 1) := by decide +kernel
theorem dX1_fullestPage_23 : decode cX1_fullestPage 23 = .ok (.getfield 23, 3) := by decide +kernel
theorem dX1_fullestPage_26 : decode cX1_fullestPage 26 = .ok (.iload_n 1, 1) := by decide +kernel
theorem dX1_fullestPage_27 : decode cX1_fullestPage 27 = .ok (.iaload, 1) := by decide +kernel
theorem dX1_fullestPage_28 : decode cX1_fullestPage 28 = .ok (.if_icmp .le 5, 3) := by decide +kernel
theorem dX1_fullestPage_31 : decode cX1_fullestPage 31 = .ok (.iload_n 2, 1) := by decide +kernel
theorem dX1_fullestPage_32 : decode cX1_fullestPage 32 = .ok (.istore_n 1, 1) := by decide +kernel
theorem dX1_fullestPage_33 : decode cX1_fullestPage 33 = .ok (.iinc 2 1, 3) := by decide +kernel
theorem dX1_fullestPage_36 : decode cX1_fullestPage 36 = .ok (.goto (-28), 3) := by decide +kernel
theorem dX1_fullestPage_39 : decode cX1_fullestPage 39 = .ok (.iload_n 1, 1) := by decide +kernel
theorem dX1_fullestPage_40 : decode cX1_fullestPage 40 = .ok (.ireturn, 1) := by decide +kernel
set_option maxRecDepth 20000 in
theorem ggX1_leadsTo_X1_needHeading : GoodIn wsX1_leadsTo wsX1_needHeading := goodIn_ca (goodIn_r _ [5, 6, 7, 8, 9, 10, 4, 11, 12, 22, 23, 24, 25, 26, 27, 28, 29, 30] (by decide +kernel) (by decide +kernel)) (goodIn_sub (fun _ h => List.mem_cons_of_mem _ (List.mem_append_right _ h)) (by decide +kernel))
set_option maxRecDepth 20000 in
theorem gX1_leadsTo_X1_needHeading : GoodIn wsX1_leadsTo (wsV RX1 50 RX1 yX1_needHeading wsX1_needHeading) := goodIn_app (goodIn_of _ (by decide +kernel)) ggX1_leadsTo_X1_needHeading
set_option maxRecDepth 20000 in
theorem ggX1_leadsTo_X1_endOfSees : GoodIn wsX1_leadsTo wsX1_endOfSees := goodIn_r _ [16, 12, 17, 18, 19, 4, 20, 21, 8, 9, 10, 11, 22, 23, 24, 25, 26, 27, 28, 29, 30] (by decide +kernel) (by decide +kernel)
set_option maxRecDepth 20000 in
theorem gX1_leadsTo_X1_endOfSees : GoodIn wsX1_leadsTo (wsV RX1 152 RX1 yX1_endOfSees wsX1_endOfSees) := goodIn_app (goodIn_of _ (by decide +kernel)) ggX1_leadsTo_X1_endOfSees
theorem dX1_leadsTo_0 : decode cX1_leadsTo 0 = .ok (.aload_n 0, 1) := by decide +kernel
theorem dX1_leadsTo_1 : decode cX1_leadsTo 1 = .ok (.iload_n 1, 1) := by decide +kernel
theorem dX1_leadsTo_2 : decode cX1_leadsTo 2 = .ok (.invokevirtual 50, 3) := by decide +kernel
theorem dX1_leadsTo_5 : decode cX1_leadsTo 5 = .ok (.aload_n 0, 1) := by decide +kernel
theorem dX1_leadsTo_6 : decode cX1_leadsTo 6 = .ok (.iload_n 1, 1) := by decide +kernel
theorem dX1_leadsTo_7 : decode cX1_leadsTo 7 = .ok (.invokevirtual 152, 3) := by decide +kernel
theorem dX1_leadsTo_10 : decode cX1_leadsTo 10 = .ok (.ireturn, 1) := by decide +kernel
set_option maxRecDepth 20000 in
theorem ggX1_vainSees_X1_seeAt : GoodIn wsX1_vainSees wsX1_seeAt := goodIn_r _ [6, 7, 8, 9, 10, 5, 11, 1, 32, 33, 34, 35, 36, 37, 38, 39, 40] (by decide +kernel) (by decide +kernel)
set_option maxRecDepth 20000 in
theorem gX1_vainSees_X1_seeAt : GoodIn wsX1_vainSees (wsV RX1 58 RX1 yX1_seeAt wsX1_seeAt) := goodIn_app (goodIn_of _ (by decide +kernel)) ggX1_vainSees_X1_seeAt
set_option maxRecDepth 20000 in
theorem ggX1_vainSees_X1_endOfSees : GoodIn wsX1_vainSees wsX1_endOfSees := goodIn_r _ [15, 1, 2, 3, 4, 5, 6, 7, 8, 9, 10, 11, 32, 33, 34, 35, 36, 37, 38, 39, 40] (by decide +kernel) (by decide +kernel)
set_option maxRecDepth 20000 in
theorem gX1_vainSees_X1_endOfSees : GoodIn wsX1_vainSees (wsV RX1 152 RX1 yX1_endOfSees wsX1_endOfSees) := goodIn_app (goodIn_of _ (by decide +kernel)) ggX1_vainSees_X1_endOfSees
set_option maxRecDepth 20000 in
theorem ggX1_vainSees_X1_isVainEnd : GoodIn wsX1_vainSees wsX1_isVainEnd := goodIn_r _ [19, 20, 21, 22, 5, 23, 24, 25, 8, 9, 10, 11, 1, 26, 27, 28, 29, 30, 31, 32, 33, 34, 35, 36, 37, 38, 39, 40, 41, 42, 43] (by decide +kernel) (by decide +kernel)
set_option maxRecDepth 20000 in
theorem gX1_vainSees_X1_isVainEnd : GoodIn wsX1_vainSees (wsV RX1 155 RX1 yX1_isVainEnd wsX1_isVainEnd) := goodIn_app (goodIn_of _ (by decide +kernel)) ggX1_vainSees_X1_isVainEnd
theorem dX1_vainSees_0 : decode cX1_vainSees 0 = .ok (.iconst 0, 1) := by decide +kernel
theorem dX1_vainSees_1 : decode cX1_vainSees 1 = .ok (.istore_n 1, 1) := by decide +kernel
theorem dX1_vainSees_2 : decode cX1_vainSees 2 = .ok (.iconst 0, 1) := by decide +kernel
theorem dX1_vainSees_3 : decode cX1_vainSees 3 = .ok (.istore_n 2, 1) := by decide +kernel
theorem dX1_vainSees_4 : decode cX1_vainSees 4 = .ok (.iload_n 2, 1) := by decide +kernel
theorem dX1_vainSees_5 : decode cX1_vainSees 5 = .ok (.aload_n 0, 1) := by decide +kernel
theorem dX1_vainSees_6 : decode cX1_vainSees 6 = .ok (.getfield 36, 3) := by decide +kernel
theorem dX1_vainSees_9 : decode cX1_vainSees 9 = .ok (.if_icmp .ge 33, 3) := by decide +kernel
theorem dX1_vainSees_12 : decode cX1_vainSees 12 = .ok (.aload_n 0, 1) := by decide +kernel
theorem dX1_vainSees_13 : decode cX1_vainSees 13 = .ok (.iload_n 2, 1) := by decide +kernel
theorem dX1_vainSees_14 : decode cX1_vainSees 14 = .ok (.invokevirtual 58, 3) := by decide +kernel
theorem dX1_vainSees_17 : decode cX1_vainSees 17 = .ok (.iconst (-1), 1) := by decide +kernel
theorem dX1_vainSees_18 : decode cX1_vainSees 18 = .ok (.if_icmp .eq 18, 3) := by decide +kernel
theorem dX1_vainSees_21 : decode cX1_vainSees 21 = .ok (.aload_n 0, 1) := by decide +kernel
theorem dX1_vainSees_22 : decode cX1_vainSees 22 = .ok (.aload_n 0, 1) := by decide +kernel
theorem dX1_vainSees_23 : decode cX1_vainSees 23 = .ok (.iload_n 2, 1) := by decide +kernel
theorem dX1_vainSees_24 : decode cX1_vainSees 24 = .ok (.invokevirtual 152, 3) := by decide +kernel
theorem dX1_vainSees_27 : decode cX1_vainSees 27 = .ok (.invokevirtual 155, 3) := by decide +kernel
theorem dX1_vainSees_30 : decode cX1_vainSees 30 = .ok (.ifCond .eq 6, 3) := by decide +kernel
theorem dX1_vainSees_33 : decode cX1_vainSees 33 = .ok (.iinc 1 1, 3) := by decide +kernel
theorem dX1_vainSees_36 : decode cX1_vainSees 36 = .ok (.iinc 2 1, 3) := by decide +kernel
theorem dX1_vainSees_39 : decode cX1_vainSees 39 = .ok (.goto (-35), 3) := by decide +kernel
theorem dX1_vainSees_42 : decode cX1_vainSees 42 = .ok (.iload_n 1, 1) := by decide +kernel
theorem dX1_vainSees_43 : decode cX1_vainSees 43 = .ok (.ireturn, 1) := by decide +kernel
set_option maxRecDepth 20000 in
theorem ggX1_steps_X1_needHeading : GoodIn wsX1_steps wsX1_needHeading := goodIn_ca (goodIn_r _ [5, 6, 7, 8, 9, 10, 4, 11, 12, 22, 23, 24, 25, 26, 27, 28, 29, 30] (by decide +kernel) (by decide +kernel)) (goodIn_sub (fun _ h => List.mem_cons_of_mem _ (List.mem_append_right _ h)) (by decide +kernel))
set_option maxRecDepth 20000 in
theorem gX1_steps_X1_needHeading : GoodIn wsX1_steps (wsV RX1 50 RX1 yX1_needHeading wsX1_needHeading) := goodIn_app (goodIn_of _ (by decide +kernel)) ggX1_steps_X1_needHeading
set_option maxRecDepth 20000 in
theorem ggX1_steps_X1_only : GoodIn wsX1_steps wsX1_only := goodIn_r _ [15] (by decide +kernel) (by decide +kernel)
set_option maxRecDepth 20000 in
theorem gX1_steps_X1_only : GoodIn wsX1_steps (va_wsS RX1 99 yX1_only wsX1_only) := goodIn_app (goodIn_of _ (by decide +kernel)) ggX1_steps_X1_only
set_option maxRecDepth 20000 in
theorem ggX1_steps_X1_oneStepFrom : GoodIn wsX1_steps wsX1_oneStepFrom := goodIn_r _ [19, 12, 20, 21, 13, 14, 4, 15, 22, 23, 24, 25, 26, 27, 28, 29, 30] (by decide +kernel) (by decide +kernel)
set_option maxRecDepth 20000 in
theorem gX1_steps_X1_oneStepFrom : GoodIn wsX1_steps (wsV RX1 158 RX1 yX1_oneStepFrom wsX1_oneStepFrom) := goodIn_app (goodIn_of _ (by decide +kernel)) ggX1_steps_X1_oneStepFrom
theorem dX1_steps_0 : decode cX1_steps 0 = .ok (.aload_n 0, 1) := by decide +kernel
theorem dX1_steps_1 : decode cX1_steps 1 = .ok (.iload_n 1, 1) := by decide +kernel
theorem dX1_steps_2 : decode cX1_steps 2 = .ok (.invokevirtual 50, 3) := by decide +kernel
theorem dX1_steps_5 : decode cX1_steps 5 = .ok (.aload_n 0, 1) := by decide +kernel
theorem dX1_steps_6 : decode cX1_steps 6 = .ok (.iload_n 2, 1) := by decide +kernel
theorem dX1_steps_7 : decode cX1_steps 7 = .ok (.invokevirtual 50, 3) := by decide +kernel
theorem dX1_steps_10 : decode cX1_steps 10 = .ok (.iload_n 1, 1) := by decide +kernel
theorem dX1_steps_11 : decode cX1_steps 11 = .ok (.invokestatic 99, 3) := by decide +kernel
theorem dX1_steps_14 : decode cX1_steps 14 = .ok (.istore_n 3, 1) := by decide +kernel
theorem dX1_steps_15 : decode cX1_steps 15 = .ok (.iconst 0, 1) := by decide +kernel
theorem dX1_steps_16 : decode cX1_steps 16 = .ok (.istore 4, 2) := by decide +kernel
theorem dX1_steps_18 : decode cX1_steps 18 = .ok (.iload 4, 2) := by decide +kernel
theorem dX1_steps_20 : decode cX1_steps 20 = .ok (.bipush 24, 2) := by decide +kernel
theorem dX1_steps_22 : decode cX1_steps 22 = .ok (.if_icmp .ge 29, 3) := by decide +kernel
theorem dX1_steps_25 : decode cX1_steps 25 = .ok (.iload_n 3, 1) := by decide +kernel
theorem dX1_steps_26 : decode cX1_steps 26 = .ok (.iload_n 2, 1) := by decide +kernel
theorem dX1_steps_27 : decode cX1_steps 27 = .ok (.invokestatic 99, 3) := by decide +kernel
theorem dX1_steps_30 : decode cX1_steps 30 = .ok (.iand, 1) := by decide +kernel
theorem dX1_steps_31 : decode cX1_steps 31 = .ok (.ifCond .eq 6, 3) := by decide +kernel
theorem dX1_steps_34 : decode cX1_steps 34 = .ok (.iload 4, 2) := by decide +kernel
theorem dX1_steps_36 : decode cX1_steps 36 = .ok (.ireturn, 1) := by decide +kernel
theorem dX1_steps_37 : decode cX1_steps 37 = .ok (.iload_n 3, 1) := by decide +kernel
theorem dX1_steps_38 : decode cX1_steps 38 = .ok (.aload_n 0, 1) := by decide +kernel
theorem dX1_steps_39 : decode cX1_steps 39 = .ok (.iload_n 3, 1) := by decide +kernel
theorem dX1_steps_40 : decode cX1_steps 40 = .ok (.invokevirtual 158, 3) := by decide +kernel
theorem dX1_steps_43 : decode cX1_steps 43 = .ok (.ior, 1) := by decide +kernel
theorem dX1_steps_44 : decode cX1_steps 44 = .ok (.istore_n 3, 1) := by decide +kernel
theorem dX1_steps_45 : decode cX1_steps 45 = .ok (.iinc 4 1, 3) := by decide +kernel
theorem dX1_steps_48 : decode cX1_steps 48 = .ok (.goto (-30), 3) := by decide +kernel
theorem dX1_steps_51 : decode cX1_steps 51 = .ok (.iconst (-1), 1) := by decide +kernel
theorem dX1_steps_52 : decode cX1_steps 52 = .ok (.ireturn, 1) := by decide +kernel
set_option maxRecDepth 20000 in
theorem ggX1_reachOf_X1_needHeading : GoodIn wsX1_reachOf wsX1_needHeading := goodIn_ca (goodIn_r _ [5, 6, 7, 8, 9, 10, 4, 11, 12, 37, 38, 39, 40, 41, 42, 43, 44, 45] (by decide +kernel) (by decide +kernel)) (goodIn_sub (fun _ h => List.mem_cons_of_mem _ (List.mem_append_right _ h)) (by decide +kernel))
set_option maxRecDepth 20000 in
theorem gX1_reachOf_X1_needHeading : GoodIn wsX1_reachOf (wsV RX1 50 RX1 yX1_needHeading wsX1_needHeading) := goodIn_app (goodIn_of _ (by decide +kernel)) ggX1_reachOf_X1_needHeading
set_option maxRecDepth 20000 in
theorem ggX1_reachOf_X1_countReached : GoodIn wsX1_reachOf wsX1_countReached := goodIn_r _ [16, 17, 18, 4, 19, 20, 21, 22, 23, 12, 24, 25, 26, 27, 28, 29, 30, 31, 32, 33, 34, 35, 36, 37, 38, 39, 40, 41, 42, 43, 44, 45] (by decide +kernel) (by decide +kernel)
set_option maxRecDepth 20000 in
theorem gX1_reachOf_X1_countReached : GoodIn wsX1_reachOf (wsV RX1 161 RX1 yX1_countReached wsX1_countReached) := goodIn_app (goodIn_of _ (by decide +kernel)) ggX1_reachOf_X1_countReached
theorem dX1_reachOf_0 : decode cX1_reachOf 0 = .ok (.aload_n 0, 1) := by decide +kernel
theorem dX1_reachOf_1 : decode cX1_reachOf 1 = .ok (.iload_n 1, 1) := by decide +kernel
theorem dX1_reachOf_2 : decode cX1_reachOf 2 = .ok (.invokevirtual 50, 3) := by decide +kernel
theorem dX1_reachOf_5 : decode cX1_reachOf 5 = .ok (.aload_n 0, 1) := by decide +kernel
theorem dX1_reachOf_6 : decode cX1_reachOf 6 = .ok (.iload_n 1, 1) := by decide +kernel
theorem dX1_reachOf_7 : decode cX1_reachOf 7 = .ok (.invokevirtual 161, 3) := by decide +kernel
theorem dX1_reachOf_10 : decode cX1_reachOf 10 = .ok (.ireturn, 1) := by decide +kernel
set_option maxRecDepth 20000 in
theorem ggX1_isInRing_X1_needHeading : GoodIn wsX1_isInRing wsX1_needHeading := goodIn_ca (goodIn_r _ [5, 6, 7, 8, 9, 10, 4, 11, 12, 30, 31, 32, 33, 34, 35, 36, 37, 38] (by decide +kernel) (by decide +kernel)) (goodIn_sub (fun _ h => List.mem_cons_of_mem _ (List.mem_append_right _ h)) (by decide +kernel))
set_option maxRecDepth 20000 in
theorem gX1_isInRing_X1_needHeading : GoodIn wsX1_isInRing (wsV RX1 50 RX1 yX1_needHeading wsX1_needHeading) := goodIn_app (goodIn_of _ (by decide +kernel)) ggX1_isInRing_X1_needHeading
set_option maxRecDepth 20000 in
theorem ggX1_isInRing_X1_comesBack : GoodIn wsX1_isInRing wsX1_comesBack := goodIn_r _ [16, 17, 18, 4, 19, 20, 21, 22, 23, 12, 24, 25, 26, 27, 28, 29, 30, 31, 32, 33, 34, 35, 36, 37, 38] (by decide +kernel) (by decide +kernel)
set_option maxRecDepth 20000 in
theorem gX1_isInRing_X1_comesBack : GoodIn wsX1_isInRing (wsV RX1 164 RX1 yX1_comesBack wsX1_comesBack) := goodIn_app (goodIn_of _ (by decide +kernel)) ggX1_isInRing_X1_comesBack
theorem dX1_isInRing_0 : decode cX1_isInRing 0 = .ok (.aload_n 0, 1) := by decide +kernel
theorem dX1_isInRing_1 : decode cX1_isInRing 1 = .ok (.iload_n 1, 1) := by decide +kernel
theorem dX1_isInRing_2 : decode cX1_isInRing 2 = .ok (.invokevirtual 50, 3) := by decide +kernel
theorem dX1_isInRing_5 : decode cX1_isInRing 5 = .ok (.aload_n 0, 1) := by decide +kernel
theorem dX1_isInRing_6 : decode cX1_isInRing 6 = .ok (.iload_n 1, 1) := by decide +kernel
theorem dX1_isInRing_7 : decode cX1_isInRing 7 = .ok (.invokevirtual 164, 3) := by decide +kernel
theorem dX1_isInRing_10 : decode cX1_isInRing 10 = .ok (.ireturn, 1) := by decide +kernel
set_option maxRecDepth 20000 in
theorem ggX1_unled_X1_oneStepFrom : GoodIn wsX1_unled wsX1_oneStepFrom := goodIn_r _ [6, 1, 7, 8, 9, 10, 5, 11, 19, 20, 21, 22, 23, 24, 25, 26, 27] (by decide +kernel) (by decide +kernel)
set_option maxRecDepth 20000 in
theorem gX1_unled_X1_oneStepFrom : GoodIn wsX1_unled (wsV RX1 158 RX1 yX1_oneStepFrom wsX1_oneStepFrom) := goodIn_app (goodIn_of _ (by decide +kernel)) ggX1_unled_X1_oneStepFrom
set_option maxRecDepth 20000 in
theorem ggX1_unled_J6_bitCount_0f7a4 : GoodIn wsX1_unled wsJ6_bitCount_0f7a4 := goodIn_r _ [15, 16, 17, 18] (by decide +kernel) (by decide +kernel)
set_option maxRecDepth 20000 in
theorem gX1_unled_J6_bitCount_0f7a4 : GoodIn wsX1_unled (va_wsS RX1 102 yJ6_bitCount_0f7a4 wsJ6_bitCount_0f7a4) := goodIn_app (goodIn_of _ (by decide +kernel)) ggX1_unled_J6_bitCount_0f7a4
theorem dX1_unled_0 : decode cX1_unled 0 = .ok (.iconst 1, 1) := by decide +kernel
theorem dX1_unled_1 : decode cX1_unled 1 = .ok (.aload_n 0, 1) := by decide +kernel
theorem dX1_unled_2 : decode cX1_unled 2 = .ok (.getfield 36, 3) := by decide +kernel
theorem dX1_unled_5 : decode cX1_unled 5 = .ok (.ishl, 1) := by decide +kernel
theorem dX1_unled_6 : decode cX1_unled 6 = .ok (.iconst 1, 1) := by decide +kernel
theorem dX1_unled_7 : decode cX1_unled 7 = .ok (.isub, 1) := by decide +kernel
theorem dX1_unled_8 : decode cX1_unled 8 = .ok (.istore_n 1, 1) := by decide +kernel
theorem dX1_unled_9 : decode cX1_unled 9 = .ok (.aload_n 0, 1) := by decide +kernel
theorem dX1_unled_10 : decode cX1_unled 10 = .ok (.getfield 36, 3) := by decide +kernel
theorem dX1_unled_13 : decode cX1_unled 13 = .ok (.aload_n 0, 1) := by decide +kernel
theorem dX1_unled_14 : decode cX1_unled 14 = .ok (.iload_n 1, 1) := by decide +kernel
theorem dX1_unled_15 : decode cX1_unled 15 = .ok (.invokevirtual 158, 3) := by decide +kernel
theorem dX1_unled_18 : decode cX1_unled 18 = .ok (.invokestatic 102, 3) := by decide +kernel
theorem dX1_unled_21 : decode cX1_unled 21 = .ok (.isub, 1) := by decide +kernel
theorem dX1_unled_22 : decode cX1_unled 22 = .ok (.ireturn, 1) := by decide +kernel
set_option maxRecDepth 20000 in
theorem ggX1_spansWithGap_X1_needHeading : GoodIn wsX1_spansWithGap wsX1_needHeading := goodIn_ca (goodIn_r _ [8, 9, 10, 11, 12, 13, 7, 14, 15, 42, 43, 44, 45, 46, 47, 48, 49, 50] (by decide +kernel) (by decide +kernel)) (goodIn_sub (fun _ h => List.mem_cons_of_mem _ (List.mem_append_right _ h)) (by decide +kernel))
set_option maxRecDepth 20000 in
theorem gX1_spansWithGap_X1_needHeading : GoodIn wsX1_spansWithGap (wsV RX1 50 RX1 yX1_needHeading wsX1_needHeading) := goodIn_app (goodIn_of _ (by decide +kernel)) ggX1_spansWithGap_X1_needHeading
set_option maxRecDepth 20000 in
theorem ggX1_spansWithGap_X1_spansAt : GoodIn wsX1_spansWithGap wsX1_spansAt := goodIn_r _ [19, 20, 21, 11, 12, 13, 7, 14, 15, 42, 43, 44, 45, 46, 47, 48, 49, 50] (by decide +kernel) (by decide +kernel)
set_option maxRecDepth 20000 in
theorem gX1_spansWithGap_X1_spansAt : GoodIn wsX1_spansWithGap (wsV RX1 64 RX1 yX1_spansAt wsX1_spansAt) := goodIn_app (goodIn_of _ (by decide +kernel)) ggX1_spansWithGap_X1_spansAt
set_option maxRecDepth 20000 in
theorem ggX1_spansWithGap_X0_becomeBridged : GoodIn wsX1_spansWithGap wsX0_becomeBridged := goodIn_r _ [26, 27, 28, 29, 30, 31, 32, 25, 33, 34, 35, 36, 37, 51, 52, 53] (by decide +kernel) (by decide +kernel)
set_option maxRecDepth 20000 in
theorem gX1_spansWithGap_X0_becomeBridged : GoodIn wsX1_spansWithGap (wsV RX1 169 RX0 yX0_becomeBridged wsX0_becomeBridged) := goodIn_app (goodIn_of _ (by decide +kernel)) ggX1_spansWithGap_X0_becomeBridged
set_option maxRecDepth 20000 in
theorem ggX1_spansWithGap_X0_count : GoodIn wsX1_spansWithGap wsX0_count := goodIn_r _ [41, 27, 51, 52, 53] (by decide +kernel) (by decide +kernel)
set_option maxRecDepth 20000 in
theorem gX1_spansWithGap_X0_count : GoodIn wsX1_spansWithGap (wsV RX1 82 RX0 yX0_count wsX0_count) := goodIn_app (goodIn_of _ (by decide +kernel)) ggX1_spansWithGap_X0_count
theorem dX1_spansWithGap_0 : decode cX1_spansWithGap 0 = .ok (.aload_n 0, 1) := by decide +kernel
theorem dX1_spansWithGap_1 : decode cX1_spansWithGap 1 = .ok (.iload_n 1, 1) := by decide +kernel
theorem dX1_spansWithGap_2 : decode cX1_spansWithGap 2 = .ok (.invokevirtual 50, 3) := by decide +kernel
theorem dX1_spansWithGap_5 : decode cX1_spansWithGap 5 = .ok (.iload_n 2, 1) := by decide +kernel
theorem dX1_spansWithGap_6 : decode cX1_spansWithGap 6 = .ok (.ifCond .lt 9, 3) := by decide +kernel
theorem dX1_spansWithGap_9 : decode cX1_spansWithGap 9 = .ok (.iload_n 2, 1) := by decide +kernel
theorem dX1_spansWithGap_10 : decode cX1_spansWithGap 10 = .ok (.bipush 100, 2) := by decide +kernel
theorem dX1_spansWithGap_12 : decode cX1_spansWithGap 12 = .ok (.if_icmp .le 13, 3) := by decide +kernel
theorem dX1_spansWithGap_15 : decode cX1_spansWithGap 15 = .ok (.new 109, 3) := by decide +kernel
theorem dX1_spansWithGap_18 : decode cX1_spansWithGap 18 = .ok (.dup, 1) := by decide +kernel
theorem dX1_spansWithGap_19 : decode cX1_spansWithGap 19 = .ok (.ldc 167, 2) := by decide +kernel
theorem dX1_spansWithGap_21 : decode cX1_spansWithGap 21 = .ok (.invokespecial 113, 3) := by decide +kernel
theorem dX1_spansWithGap_24 : decode cX1_spansWithGap 24 = .ok (.athrow, 1) := by decide +kernel
theorem dX1_spansWithGap_25 : decode cX1_spansWithGap 25 = .ok (.aload_n 0, 1) := by decide +kernel
theorem dX1_spansWithGap_26 : decode cX1_spansWithGap 26 = .ok (.getfield 30, 3) := by decide +kernel
theorem dX1_spansWithGap_29 : decode cX1_spansWithGap 29 = .ok (.aload_n 0, 1) := by decide +kernel
theorem dX1_spansWithGap_30 : decode cX1_spansWithGap 30 = .ok (.iload_n 1, 1) := by decide +kernel
theorem dX1_spansWithGap_31 : decode cX1_spansWithGap 31 = .ok (.invokevirtual 64, 3) := by decide +kernel
theorem dX1_spansWithGap_34 : decode cX1_spansWithGap 34 = .ok (.iload_n 2, 1) := by decide +kernel
theorem dX1_spansWithGap_35 : decode cX1_spansWithGap 35 = .ok (.invokevirtual 169, 3) := by decide +kernel
theorem dX1_spansWithGap_38 : decode cX1_spansWithGap 38 = .ok (.aload_n 0, 1) := by decide +kernel
theorem dX1_spansWithGap_39 : decode cX1_spansWithGap 39 = .ok (.getfield 30, 3) := by decide +kernel
theorem dX1_spansWithGap_42 : decode cX1_spansWithGap 42 = .ok (.invokevirtual 82, 3) := by decide +kernel
theorem dX1_spansWithGap_45 : decode cX1_spansWithGap 45 = .ok (.ireturn, 1) := by decide +kernel
set_option maxRecDepth 20000 in
theorem ggX1_commonPages_X1_needHeading : GoodIn wsX1_commonPages wsX1_needHeading := goodIn_ca (goodIn_r _ [5, 6, 7, 8, 9, 10, 4, 11, 12, 34, 35, 36, 37, 38, 39, 40, 41, 42] (by decide +kernel) (by decide +kernel)) (goodIn_sub (fun _ h => List.mem_cons_of_mem _ (List.mem_append_right _ h)) (by decide +kernel))
set_option maxRecDepth 20000 in
theorem gX1_commonPages_X1_needHeading : GoodIn wsX1_commonPages (wsV RX1 50 RX1 yX1_needHeading wsX1_needHeading) := goodIn_app (goodIn_of _ (by decide +kernel)) ggX1_commonPages_X1_needHeading
set_option maxRecDepth 20000 in
theorem ggX1_commonPages_X1_spansAt : GoodIn wsX1_commonPages wsX1_spansAt := goodIn_r _ [16, 17, 18, 8, 9, 10, 4, 11, 12, 34, 35, 36, 37, 38, 39, 40, 41, 42] (by decide +kernel) (by decide +kernel)
set_option maxRecDepth 20000 in
theorem gX1_commonPages_X1_spansAt : GoodIn wsX1_commonPages (wsV RX1 64 RX1 yX1_spansAt wsX1_spansAt) := goodIn_app (goodIn_of _ (by decide +kernel)) ggX1_commonPages_X1_spansAt
set_option maxRecDepth 20000 in
theorem ggX1_commonPages_X0_pagesInCommon : GoodIn wsX1_commonPages wsX0_pagesInCommon := goodIn_r _ [23, 24, 25, 26, 27, 28, 29, 30, 31, 32, 33, 43, 44, 45] (by decide +kernel) (by decide +kernel)
set_option maxRecDepth 20000 in
theorem gX1_commonPages_X0_pagesInCommon : GoodIn wsX1_commonPages (wsV RX1 172 RX0 yX0_pagesInCommon wsX0_pagesInCommon) := goodIn_app (goodIn_of _ (by decide +kernel)) ggX1_commonPages_X0_pagesInCommon
theorem dX1_commonPages_0 : decode cX1_commonPages 0 = .ok (.aload_n 0, 1) := by decide +kernel
theorem dX1_commonPages_1 : decode cX1_commonPages 1 = .ok (.iload_n 1, 1) := by decide +kernel
theorem dX1_commonPages_2 : decode cX1_commonPages 2 = .ok (.invokevirtual 50, 3) := by decide +kernel
theorem dX1_commonPages_5 : decode cX1_commonPages 5 = .ok (.aload_n 0, 1) := by decide +kernel
theorem dX1_commonPages_6 : decode cX1_commonPages 6 = .ok (.iload_n 2, 1) := by decide +kernel
theorem dX1_commonPages_7 : decode cX1_commonPages 7 = .ok (.invokevirtual 50, 3) := by decide +kernel
theorem dX1_commonPages_10 : decode cX1_commonPages 10 = .ok (.aload_n 0, 1) := by decide +kernel
theorem dX1_commonPages_11 : decode cX1_commonPages 11 = .ok (.iload_n 1, 1) := by decide +kernel
theorem dX1_commonPages_12 : decode cX1_commonPages 12 = .ok (.invokevirtual 64, 3) := by decide +kernel
theorem dX1_commonPages_15 : decode cX1_commonPages 15 = .ok (.aload_n 0, 1) := by decide +kernel
theorem dX1_commonPages_16 : decode cX1_commonPages 16 = .ok (.iload_n 2, 1) := by decide +kernel
theorem dX1_commonPages_17 : decode cX1_commonPages 17 = .ok (.invokevirtual 64, 3) := by decide +kernel
theorem dX1_commonPages_20 : decode cX1_commonPages 20 = .ok (.invokevirtual 172, 3) := by decide +kernel
theorem dX1_commonPages_23 : decode cX1_commonPages 23 = .ok (.ireturn, 1) := by decide +kernel
set_option maxRecDepth 20000 in
theorem ggX1_nearest_X1_needHeading : GoodIn wsX1_nearest wsX1_needHeading := goodIn_ca (goodIn_r _ [5, 6, 7, 8, 9, 10, 4, 11, 12, 38, 39, 40, 41, 42, 43, 44, 45, 46] (by decide +kernel) (by decide +kernel)) (goodIn_sub (fun _ h => List.mem_cons_of_mem _ (List.mem_append_right _ h)) (by decide +kernel))
set_option maxRecDepth 20000 in
theorem gX1_nearest_X1_needHeading : GoodIn wsX1_nearest (wsV RX1 50 RX1 yX1_needHeading wsX1_needHeading) := goodIn_app (goodIn_of _ (by decide +kernel)) ggX1_nearest_X1_needHeading
set_option maxRecDepth 20000 in
theorem ggX1_nearest_X1_nearestOther : GoodIn wsX1_nearest wsX1_nearestOther := goodIn_r _ [16, 12, 17, 18, 19, 4, 20, 21, 22, 8, 9, 10, 11, 23, 24, 25, 26, 27, 28, 29, 30, 31, 32, 33, 34, 35, 36, 37, 38, 39, 40, 41, 42, 43, 44, 45, 46, 47, 48, 49] (by decide +kernel) (by decide +kernel)
set_option maxRecDepth 20000 in
theorem gX1_nearest_X1_nearestOther : GoodIn wsX1_nearest (wsV RX1 176 RX1 yX1_nearestOther wsX1_nearestOther) := goodIn_app (goodIn_of _ (by decide +kernel)) ggX1_nearest_X1_nearestOther
theorem dX1_nearest_0 : decode cX1_nearest 0 = .ok (.aload_n 0, 1) := by decide +kernel
theorem dX1_nearest_1 : decode cX1_nearest 1 = .ok (.iload_n 1, 1) := by decide +kernel
theorem dX1_nearest_2 : decode cX1_nearest 2 = .ok (.invokevirtual 50, 3) := by decide +kernel
theorem dX1_nearest_5 : decode cX1_nearest 5 = .ok (.aload_n 0, 1) := by decide +kernel
theorem dX1_nearest_6 : decode cX1_nearest 6 = .ok (.iload_n 1, 1) := by decide +kernel
theorem dX1_nearest_7 : decode cX1_nearest 7 = .ok (.invokevirtual 176, 3) := by decide +kernel
theorem dX1_nearest_10 : decode cX1_nearest 10 = .ok (.ireturn, 1) := by decide +kernel
set_option maxRecDepth 20000 in
theorem ggX1_spansTogether_X1_needHeading : GoodIn wsX1_spansTogether wsX1_needHeading := goodIn_ca (goodIn_r _ [6, 7, 8, 9, 10, 11, 5, 12, 13, 48, 49, 50, 51, 52, 53, 54, 55, 56] (by decide +kernel) (by decide +kernel)) (goodIn_sub (fun _ h => List.mem_cons_of_mem _ (List.mem_append_right _ h)) (by decide +kernel))
set_option maxRecDepth 20000 in
theorem gX1_spansTogether_X1_needHeading : GoodIn wsX1_spansTogether (wsV RX1 50 RX1 yX1_needHeading wsX1_needHeading) := goodIn_app (goodIn_of _ (by decide +kernel)) ggX1_spansTogether_X1_needHeading
set_option maxRecDepth 20000 in
theorem ggX1_spansTogether_X1_spansAt : GoodIn wsX1_spansTogether wsX1_spansAt := goodIn_r _ [17, 18, 19, 9, 10, 11, 5, 12, 13, 48, 49, 50, 51, 52, 53, 54, 55, 56] (by decide +kernel) (by decide +kernel)
set_option maxRecDepth 20000 in
theorem gX1_spansTogether_X1_spansAt : GoodIn wsX1_spansTogether (wsV RX1 64 RX1 yX1_spansAt wsX1_spansAt) := goodIn_app (goodIn_of _ (by decide +kernel)) ggX1_spansTogether_X1_spansAt
set_option maxRecDepth 20000 in
theorem ggX1_spansTogether_X0_becomeUnion : GoodIn wsX1_spansTogether wsX0_becomeUnion := goodIn_r _ [24, 25, 26, 27, 28, 29, 23, 30, 31, 32, 33, 34, 35, 36, 37, 38, 39, 40, 41, 42, 43, 57, 58, 59] (by decide +kernel) (by decide +kernel)
set_option maxRecDepth 20000 in
theorem gX1_spansTogether_X0_becomeUnion : GoodIn wsX1_spansTogether (wsV RX1 71 RX0 yX0_becomeUnion wsX0_becomeUnion) := goodIn_app (goodIn_of _ (by decide +kernel)) ggX1_spansTogether_X0_becomeUnion
set_option maxRecDepth 20000 in
theorem ggX1_spansTogether_X0_count : GoodIn wsX1_spansTogether wsX0_count := goodIn_r _ [47, 25, 57, 58, 59] (by decide +kernel) (by decide +kernel)
set_option maxRecDepth 20000 in
theorem gX1_spansTogether_X0_count : GoodIn wsX1_spansTogether (wsV RX1 82 RX0 yX0_count wsX0_count) := goodIn_app (goodIn_of _ (by decide +kernel)) ggX1_spansTogether_X0_count
theorem dX1_spansTogether_0 : decode cX1_spansTogether 0 = .ok (.aload_n 0, 1) := by decide +kernel
theorem dX1_spansTogether_1 : decode cX1_spansTogether 1 = .ok (.iload_n 1, 1) := by decide +kernel
theorem dX1_spansTogether_2 : decode cX1_spansTogether 2 = .ok (.invokevirtual 50, 3) := by decide +kernel
theorem dX1_spansTogether_5 : decode cX1_spansTogether 5 = .ok (.aload_n 0, 1) := by decide +kernel
theorem dX1_spansTogether_6 : decode cX1_spansTogether 6 = .ok (.iload_n 2, 1) := by decide +kernel
theorem dX1_spansTogether_7 : decode cX1_spansTogether 7 = .ok (.invokevirtual 50, 3) := by decide +kernel
theorem dX1_spansTogether_10 : decode cX1_spansTogether 10 = .ok (.aload_n 0, 1) := by decide +kernel
theorem dX1_spansTogether_11 : decode cX1_spansTogether 11 = .ok (.getfield 30, 3) := by decide +kernel
theorem dX1_spansTogether_14 : decode cX1_spansTogether 14 = .ok (.aload_n 0, 1) := by decide +kernel
theorem dX1_spansTogether_15 : decode cX1_spansTogether 15 = .ok (.iload_n 1, 1) := by decide +kernel
theorem dX1_spansTogether_16 : decode cX1_spansTogether 16 = .ok (.invokevirtual 64, 3) := by decide +kernel
theorem dX1_spansTogether_19 : decode cX1_spansTogether 19 = .ok (.aload_n 0, 1) := by decide +kernel
theorem dX1_spansTogether_20 : decode cX1_spansTogether 20 = .ok (.iload_n 2, 1) := by decide +kernel
theorem dX1_spansTogether_21 : decode cX1_spansTogether 21 = .ok (.invokevirtual 64, 3) := by decide +kernel
theorem dX1_spansTogether_24 : decode cX1_spansTogether 24 = .ok (.invokevirtual 71, 3) := by decide +kernel
theorem dX1_spansTogether_27 : decode cX1_spansTogether 27 = .ok (.aload_n 0, 1) := by decide +kernel
theorem dX1_spansTogether_28 : decode cX1_spansTogether 28 = .ok (.getfield 30, 3) := by decide +kernel
theorem dX1_spansTogether_31 : decode cX1_spansTogether 31 = .ok (.invokevirtual 82, 3) := by decide +kernel
theorem dX1_spansTogether_34 : decode cX1_spansTogether 34 = .ok (.ireturn, 1) := by decide +kernel
set_option maxRecDepth 20000 in
theorem ggX1_meanPages_X1_spansAt : GoodIn wsX1_meanPages wsX1_spansAt := goodIn_r _ [6, 7, 8, 9, 10, 11, 5, 12, 1, 21, 22, 23, 24, 25, 26, 27, 28, 29] (by decide +kernel) (by decide +kernel)
set_option maxRecDepth 20000 in
theorem gX1_meanPages_X1_spansAt : GoodIn wsX1_meanPages (wsV RX1 64 RX1 yX1_spansAt wsX1_spansAt) := goodIn_app (goodIn_of _ (by decide +kernel)) ggX1_meanPages_X1_spansAt
set_option maxRecDepth 20000 in
theorem ggX1_meanPages_X0_pages : GoodIn wsX1_meanPages wsX0_pages := goodIn_r _ [17, 18, 19, 20, 30, 31, 32] (by decide +kernel) (by decide +kernel)
set_option maxRecDepth 20000 in
theorem gX1_meanPages_X0_pages : GoodIn wsX1_meanPages (wsV RX1 90 RX0 yX0_pages wsX0_pages) := goodIn_app (goodIn_of _ (by decide +kernel)) ggX1_meanPages_X0_pages
theorem dX1_meanPages_0 : decode cX1_meanPages 0 = .ok (.iconst 0, 1) := by decide +kernel
theorem dX1_meanPages_1 : decode cX1_meanPages 1 = .ok (.istore_n 1, 1) := by decide +kernel
theorem dX1_meanPages_2 : decode cX1_meanPages 2 = .ok (.iconst 0, 1) := by decide +kernel
theorem dX1_meanPages_3 : decode cX1_meanPages 3 = .ok (.istore_n 2, 1) := by decide +kernel
theorem dX1_meanPages_4 : decode cX1_meanPages 4 = .ok (.iconst 0, 1) := by decide +kernel
theorem dX1_meanPages_5 : decode cX1_meanPages 5 = .ok (.istore_n 3, 1) := by decide +kernel
theorem dX1_meanPages_6 : decode cX1_meanPages 6 = .ok (.iload_n 3, 1) := by decide +kernel
theorem dX1_meanPages_7 : decode cX1_meanPages 7 = .ok (.aload_n 0, 1) := by decide +kernel
theorem dX1_meanPages_8 : decode cX1_meanPages 8 = .ok (.getfield 36, 3) := by decide +kernel
theorem dX1_meanPages_11 : decode cX1_meanPages 11 = .ok (.if_icmp .ge 32, 3) := by decide +kernel
theorem dX1_meanPages_14 : decode cX1_meanPages 14 = .ok (.aload_n 0, 1) := by decide +kernel
theorem dX1_meanPages_15 : decode cX1_meanPages 15 = .ok (.iload_n 3, 1) := by decide +kernel
theorem dX1_meanPages_16 : decode cX1_meanPages 16 = .ok (.invokevirtual 64, 3) := by decide +kernel
theorem dX1_meanPages_19 : decode cX1_meanPages 19 = .ok (.invokevirtual 90, 3) := by decide +kernel
theorem dX1_meanPages_22 : decode cX1_meanPages 22 = .ok (.istore 4, 2) := by decide +kernel
theorem dX1_meanPages_24 : decode cX1_meanPages 24 = .ok (.iload 4, 2) := by decide +kernel
theorem dX1_meanPages_26 : decode cX1_meanPages 26 = .ok (.ifCond .le 11, 3) := by decide +kernel
theorem dX1_meanPages_29 : decode cX1_meanPages 29 = .ok (.iload_n 1, 1) := by decide +kernel
theorem dX1_meanPages_30 : decode cX1_meanPages 30 = .ok (.iload 4, 2) := by decide +kernel
theorem dX1_meanPages_32 : decode cX1_meanPages 32 = .ok (.iadd, 1) := by decide +kernel
theorem dX1_meanPages_33 : decode cX1_meanPages 33 = .ok (.istore_n 1, 1) := by decide +kernel
theorem dX1_meanPages_34 : decode cX1_meanPages 34 = .ok (.iinc 2 1, 3) := by decide +kernel
theorem dX1_meanPages_37 : decode cX1_meanPages 37 = .ok (.iinc 3 1, 3) := by decide +kernel
theorem dX1_meanPages_40 : decode cX1_meanPages 40 = .ok (.goto (-34), 3) := by decide +kernel
theorem dX1_meanPages_43 : decode cX1_meanPages 43 = .ok (.iload_n 2, 1) := by decide +kernel
theorem dX1_meanPages_44 : decode cX1_meanPages 44 = .ok (.ifCond .ne 7, 3) := by decide +kernel
theorem dX1_meanPages_47 : decode cX1_meanPages 47 = .ok (.dconst 0, 1) := by decide +kernel
theorem dX1_meanPages_48 : decode cX1_meanPages 48 = .ok (.goto 8, 3) := by decide +kernel
theorem dX1_meanPages_51 : decode cX1_meanPages 51 = .ok (.iload_n 1, 1) := by decide +kernel
theorem dX1_meanPages_52 : decode cX1_meanPages 52 = .ok (.i2d, 1) := by decide +kernel
theorem dX1_meanPages_53 : decode cX1_meanPages 53 = .ok (.iload_n 2, 1) := by decide +kernel
theorem dX1_meanPages_54 : decode cX1_meanPages 54 = .ok (.i2d, 1) := by decide +kernel
theorem dX1_meanPages_55 : decode cX1_meanPages 55 = .ok (.ddiv, 1) := by decide +kernel
theorem dX1_meanPages_56 : decode cX1_meanPages 56 = .ok (.dreturn, 1) := by decide +kernel
end
section
set_option maxRecDepth 20000 in
theorem ggX1_digest_X1_bookPages : GoodIn wsX1_digest wsX1_bookPages := goodIn_r _ [7, 8, 139, 140, 141, 142, 143, 144, 145, 146, 147] (by decide +kernel) (by decide +kernel)
set_option maxRecDepth 20000 in
theorem gX1_digest_X1_bookPages : GoodIn wsX1_digest (wsV RX1 181 RX1 yX1_bookPages wsX1_bookPages) := goodIn_app (goodIn_of _ (by decide +kernel)) ggX1_digest_X1_bookPages
set_option maxRecDepth 20000 in
theorem ggX1_digest_X1_digestWith : GoodIn wsX1_digest wsX1_digestWith := goodIn_r _ [11, 12] (by decide +kernel) (by decide +kernel)
set_option maxRecDepth 20000 in
theorem gX1_digest_X1_digestWith : GoodIn wsX1_digest (va_wsS RX1 184 yX1_digestWith wsX1_digestWith) := goodIn_app (goodIn_of _ (by decide +kernel)) ggX1_digest_X1_digestWith
set_option maxRecDepth 20000 in
theorem ggX1_digest_X1_headings : GoodIn wsX1_digest wsX1_headings := goodIn_r _ [16, 2, 139, 140, 141, 142, 143, 144, 145, 146, 147] (by decide +kernel) (by decide +kernel)
set_option maxRecDepth 20000 in
theorem gX1_digest_X1_headings : GoodIn wsX1_digest (wsV RX1 188 RX1 yX1_headings wsX1_headings) := goodIn_app (goodIn_of _ (by decide +kernel)) ggX1_digest_X1_headings
set_option maxRecDepth 20000 in
theorem ggX1_digest_X1_barePages : GoodIn wsX1_digest wsX1_barePages := goodIn_r _ [20, 8, 21, 22, 23, 24, 6, 25, 2, 26, 27, 28, 29, 30, 31, 32, 33, 34, 35, 36, 37, 38, 39, 40, 41, 42, 43, 44, 45, 46, 47, 48, 49, 50, 51, 52, 53, 54, 55, 56, 57, 58, 59, 139, 140, 141, 142, 143, 144, 145, 146, 147, 148, 149, 150] (by decide +kernel) (by decide +kernel)
set_option maxRecDepth 20000 in
theorem gX1_digest_X1_barePages : GoodIn wsX1_digest (wsV RX1 191 RX1 yX1_barePages wsX1_barePages) := goodIn_app (goodIn_of _ (by decide +kernel)) ggX1_digest_X1_barePages
set_option maxRecDepth 20000 in
theorem ggX1_digest_X1_fullestPage : GoodIn wsX1_digest wsX1_fullestPage := goodIn_r _ [63, 8, 21, 22, 23, 24, 6, 25, 2, 26, 27, 28, 29, 30, 31, 32, 33, 34, 35, 36, 37, 38, 39, 40, 41, 42, 43, 44, 45, 46, 47, 48, 49, 50, 51, 52, 53, 54, 55, 56, 57, 58, 59, 139, 140, 141, 142, 143, 144, 145, 146, 147, 148, 149, 150] (by decide +kernel) (by decide +kernel)
set_option maxRecDepth 20000 in
theorem gX1_digest_X1_fullestPage : GoodIn wsX1_digest (wsV RX1 194 RX1 yX1_fullestPage wsX1_fullestPage) := goodIn_app (goodIn_of _ (by decide +kernel)) ggX1_digest_X1_fullestPage
set_option maxRecDepth 20000 in
theorem ggX1_digest_X1_vainSees : GoodIn wsX1_digest wsX1_vainSees := goodIn_r _ [67, 2, 68, 69, 70, 6, 71, 72, 32, 33, 34, 35, 73, 74, 75, 76, 77, 78, 79, 80, 26, 27, 28, 29, 30, 31, 40, 41, 42, 43, 44, 45, 139, 140, 141, 142, 143, 144, 145, 146, 147, 148, 149, 150] (by decide +kernel) (by decide +kernel)
set_option maxRecDepth 20000 in
theorem gX1_digest_X1_vainSees : GoodIn wsX1_digest (wsV RX1 197 RX1 yX1_vainSees wsX1_vainSees) := goodIn_app (goodIn_of _ (by decide +kernel)) ggX1_digest_X1_vainSees
set_option maxRecDepth 20000 in
theorem ggX1_digest_X1_unled : GoodIn wsX1_digest wsX1_unled := goodIn_r _ [84, 2, 85, 86, 87, 6, 88, 89, 72, 90, 91, 92, 93, 94, 95, 96, 97, 98, 99, 139, 140, 141, 142, 143, 144, 145, 146, 147] (by decide +kernel) (by decide +kernel)
set_option maxRecDepth 20000 in
theorem gX1_digest_X1_unled : GoodIn wsX1_digest (wsV RX1 200 RX1 yX1_unled wsX1_unled) := goodIn_app (goodIn_of _ (by decide +kernel)) ggX1_digest_X1_unled
set_option maxRecDepth 20000 in
theorem ggX1_digest_X1_digestWithHeading : GoodIn wsX1_digest wsX1_digestWithHeading := goodIn_r _ [103, 26, 27, 28, 6, 29, 30, 31, 32, 33, 34, 35, 2, 40, 41, 42, 43, 44, 45, 9, 10, 11, 12, 104, 105, 106, 107, 59, 50, 68, 69, 70, 71, 72, 108, 109, 110, 111, 89, 93, 94, 95, 96, 97, 98, 99, 73, 74, 75, 76, 112, 113, 114, 115, 90, 91, 92, 116, 117, 118, 119, 85, 86, 87, 88, 120, 121, 122, 123, 124, 125, 126, 127, 128, 129, 130, 131, 132, 133, 134, 135, 136, 137, 138, 46, 47, 48, 49, 55, 56, 57, 58, 139, 140, 141, 142, 143, 144, 145, 146, 147, 148, 149, 150] (by decide +kernel) (by decide +kernel)
set_option maxRecDepth 20000 in
theorem gX1_digest_X1_digestWithHeading : GoodIn wsX1_digest (wsV RX1 203 RX1 yX1_digestWithHeading wsX1_digestWithHeading) := goodIn_app (goodIn_of _ (by decide +kernel)) ggX1_digest_X1_digestWithHeading
theorem dX1_digest_0 : decode cX1_digest 0 = .ok (.ldc2_w 179, 3) := by decide +kernel
theorem dX1_digest_3 : decode cX1_digest 3 = .ok (.lstore_n 1, 1) := by decide +kernel
theorem dX1_digest_4 : decode cX1_digest 4 = .ok (.lload_n 1, 1) := by decide +kernel
theorem dX1_digest_5 : decode cX1_digest 5 = .ok (.aload_n 0, 1) := by decide +kernel
theorem dX1_digest_6 : decode cX1_digest 6 = .ok (.invokevirtual 181, 3) := by decide +kernel
theorem dX1_digest_9 : decode cX1_digest 9 = .ok (.i2l, 1) := by decide +kernel
theorem dX1_digest_10 : decode cX1_digest 10 = .ok (.invokestatic 184, 3) := by decide +kernel
theorem dX1_digest_13 : decode cX1_digest 13 = .ok (.lstore_n 1, 1) := by decide +kernel
theorem dX1_digest_14 : decode cX1_digest 14 = .ok (.lload_n 1, 1) := by decide +kernel
theorem dX1_digest_15 : decode cX1_digest 15 = .ok (.aload_n 0, 1) := by decide +kernel
theorem dX1_digest_16 : decode cX1_digest 16 = .ok (.invokevirtual 188, 3) := by decide +kernel
theorem dX1_digest_19 : decode cX1_digest 19 = .ok (.i2l, 1) := by decide +kernel
theorem dX1_digest_20 : decode cX1_digest 20 = .ok (.invokestatic 184, 3) := by decide +kernel
theorem dX1_digest_23 : decode cX1_digest 23 = .ok (.lstore_n 1, 1) := by decide +kernel
theorem dX1_digest_24 : decode cX1_digest 24 = .ok (.lload_n 1, 1) := by decide +kernel
theorem dX1_digest_25 : decode cX1_digest 25 = .ok (.aload_n 0, 1) := by decide +kernel
theorem dX1_digest_26 : decode cX1_digest 26 = .ok (.invokevirtual 191, 3) := by decide +kernel
theorem dX1_digest_29 : decode cX1_digest 29 = .ok (.i2l, 1) := by decide +kernel
theorem dX1_digest_30 : decode cX1_digest 30 = .ok (.invokestatic 184, 3) := by decide +kernel
theorem dX1_digest_33 : decode cX1_digest 33 = .ok (.lstore_n 1, 1) := by decide +kernel
theorem dX1_digest_34 : decode cX1_digest 34 = .ok (.lload_n 1, 1) := by decide +kernel
theorem dX1_digest_35 : decode cX1_digest 35 = .ok (.aload_n 0, 1) := by decide +kernel
theorem dX1_digest_36 : decode cX1_digest 36 = .ok (.invokevirtual 194, 3) := by decide +kernel
theorem dX1_digest_39 : decode cX1_digest 39 = .ok (.i2l, 1) := by decide +kernel
theorem dX1_digest_40 : decode cX1_digest 40 = .ok (.invokestatic 184, 3) := by decide +kernel
theorem dX1_digest_43 : decode cX1_digest 43 = .ok (.lstore_n 1, 1) := by decide +kernel
theorem dX1_digest_44 : decode cX1_digest 44 = .ok (.lload_n 1, 1) := by decide +kernel
theorem dX1_digest_45 : decode cX1_digest 45 = .ok (.aload_n 0, 1) := by decide +kernel
theorem dX1_digest_46 : decode cX1_digest 46 = .ok (.invokevirtual 197, 3) := by decide +kernel
theorem dX1_digest_49 : decode cX1_digest 49 = .ok (.i2l, 1) := by decide +kernel
theorem dX1_digest_50 : decode cX1_digest 50 = .ok (.invokestatic 184, 3) := by decide +kernel
theorem dX1_digest_53 : decode cX1_digest 53 = .ok (.lstore_n 1, 1) := by decide +kernel
theorem dX1_digest_54 : decode cX1_digest 54 = .ok (.lload_n 1, 1) := by decide +kernel
theorem dX1_digest_55 : decode cX1_digest 55 = .ok (.aload_n 0, 1) := by decide +kernel
theorem dX1_digest_56 : decode cX1_digest 56 = .ok (.invokevirtual 200, 3) := by decide +kernel
theorem dX1_digest_59 : decode cX1_digest 59 = .ok (.i2l, 1) := by decide +kernel
theorem dX1_digest_60 : decode cX1_digest 60 = .ok (.invokestatic 184, 3) := by decide +kernel
theorem dX1_digest_63 : decode cX1_digest 63 = .ok (.lstore_n 1, 1) := by decide +kernel
theorem dX1_digest_64 : decode cX1_digest 64 = .ok (.iconst 0, 1) := by decide +kernel
theorem dX1_digest_65 : decode cX1_digest 65 = .ok (.istore_n 3, 1) := by decide +kernel
theorem dX1_digest_66 : decode cX1_digest 66 = .ok (.iload_n 3, 1) := by decide +kernel
theorem dX1_digest_67 : decode cX1_digest 67 = .ok (.aload_n 0, 1) := by decide +kernel
theorem dX1_digest_68 : decode cX1_digest 68 = .ok (.getfield 36, 3) := by decide +kernel
theorem dX1_digest_71 : decode cX1_digest 71 = .ok (.if_icmp .ge 16, 3) := by decide +kernel
theorem dX1_digest_74 : decode cX1_digest 74 = .ok (.aload_n 0, 1) := by decide +kernel
theorem dX1_digest_75 : decode cX1_digest 75 = .ok (.lload_n 1, 1) := by decide +kernel
theorem dX1_digest_76 : decode cX1_digest 76 = .ok (.iload_n 3, 1) := by decide +kernel
theorem dX1_digest_77 : decode cX1_digest 77 = .ok (.invokevirtual 203, 3) := by decide +kernel
theorem dX1_digest_80 : decode cX1_digest 80 = .ok (.lstore_n 1, 1) := by decide +kernel
theorem dX1_digest_81 : decode cX1_digest 81 = .ok (.iinc 3 1, 3) := by decide +kernel
theorem dX1_digest_84 : decode cX1_digest 84 = .ok (.goto (-18), 3) := by decide +kernel
theorem dX1_digest_87 : decode cX1_digest 87 = .ok (.lload_n 1, 1) := by decide +kernel
theorem dX1_digest_88 : decode cX1_digest 88 = .ok (.lreturn, 1) := by decide +kernel
theorem dX1_digestWith_0 : decode cX1_digestWith 0 = .ok (.lload_n 0, 1) := by decide +kernel
theorem dX1_digestWith_1 : decode cX1_digestWith 1 = .ok (.ldc2_w 207, 3) := by decide +kernel
theorem dX1_digestWith_4 : decode cX1_digestWith 4 = .ok (.lmul, 1) := by decide +kernel
theorem dX1_digestWith_5 : decode cX1_digestWith 5 = .ok (.lload_n 2, 1) := by decide +kernel
theorem dX1_digestWith_6 : decode cX1_digestWith 6 = .ok (.ladd, 1) := by decide +kernel
theorem dX1_digestWith_7 : decode cX1_digestWith 7 = .ok (.lreturn, 1) := by decide +kernel
set_option maxRecDepth 20000 in
theorem ggX1_digestWithHeading_X1_spansAt : GoodIn wsX1_digestWithHeading wsX1_spansAt := goodIn_r _ [5, 6, 7, 8, 9, 10, 4, 11, 12, 92, 93, 94, 95, 96, 97, 98, 99, 100] (by decide +kernel) (by decide +kernel)
set_option maxRecDepth 20000 in
theorem gX1_digestWithHeading_X1_spansAt : GoodIn wsX1_digestWithHeading (wsV RX1 64 RX1 yX1_spansAt wsX1_spansAt) := goodIn_app (goodIn_of _ (by decide +kernel)) ggX1_digestWithHeading_X1_spansAt
set_option maxRecDepth 20000 in
theorem ggX1_digestWithHeading_X0_count : GoodIn wsX1_digestWithHeading wsX0_count := goodIn_r _ [17, 18, 101, 102, 103] (by decide +kernel) (by decide +kernel)
set_option maxRecDepth 20000 in
theorem gX1_digestWithHeading_X0_count : GoodIn wsX1_digestWithHeading (wsV RX1 82 RX0 yX0_count wsX0_count) := goodIn_app (goodIn_of _ (by decide +kernel)) ggX1_digestWithHeading_X0_count
set_option maxRecDepth 20000 in
theorem ggX1_digestWithHeading_X1_digestWith : GoodIn wsX1_digestWithHeading wsX1_digestWith := goodIn_r _ [21, 22] (by decide +kernel) (by decide +kernel)
set_option maxRecDepth 20000 in
theorem gX1_digestWithHeading_X1_digestWith : GoodIn wsX1_digestWithHeading (va_wsS RX1 184 yX1_digestWith wsX1_digestWith) := goodIn_app (goodIn_of _ (by decide +kernel)) ggX1_digestWithHeading_X1_digestWith
set_option maxRecDepth 20000 in
theorem ggX1_digestWithHeading_X0_pages : GoodIn wsX1_digestWithHeading wsX0_pages := goodIn_r _ [26, 18, 27, 28, 101, 102, 103] (by decide +kernel) (by decide +kernel)
set_option maxRecDepth 20000 in
theorem gX1_digestWithHeading_X0_pages : GoodIn wsX1_digestWithHeading (wsV RX1 90 RX0 yX0_pages wsX0_pages) := goodIn_app (goodIn_of _ (by decide +kernel)) ggX1_digestWithHeading_X0_pages
set_option maxRecDepth 20000 in
theorem ggX1_digestWithHeading_X1_seeAt : GoodIn wsX1_digestWithHeading wsX1_seeAt := goodIn_r _ [32, 33, 8, 9, 10, 4, 11, 12, 92, 93, 94, 95, 96, 97, 98, 99, 100] (by decide +kernel) (by decide +kernel)
set_option maxRecDepth 20000 in
theorem gX1_digestWithHeading_X1_seeAt : GoodIn wsX1_digestWithHeading (wsV RX1 58 RX1 yX1_seeAt wsX1_seeAt) := goodIn_app (goodIn_of _ (by decide +kernel)) ggX1_digestWithHeading_X1_seeAt
set_option maxRecDepth 20000 in
theorem ggX1_digestWithHeading_X1_countSeeAlsos : GoodIn wsX1_digestWithHeading wsX1_countSeeAlsos := goodIn_r _ [37, 38, 8, 9, 10, 4, 11, 12, 39, 40, 41, 42, 43, 44, 45, 92, 93, 94, 95, 96, 97, 98, 99, 100] (by decide +kernel) (by decide +kernel)
set_option maxRecDepth 20000 in
theorem gX1_digestWithHeading_X1_countSeeAlsos : GoodIn wsX1_digestWithHeading (wsV RX1 142 RX1 yX1_countSeeAlsos wsX1_countSeeAlsos) := goodIn_app (goodIn_of _ (by decide +kernel)) ggX1_digestWithHeading_X1_countSeeAlsos
set_option maxRecDepth 20000 in
theorem ggX1_digestWithHeading_X1_endOfSees : GoodIn wsX1_digestWithHeading wsX1_endOfSees := goodIn_r _ [49, 12, 29, 30, 31, 4, 32, 33, 8, 9, 10, 11, 92, 93, 94, 95, 96, 97, 98, 99, 100] (by decide +kernel) (by decide +kernel)
set_option maxRecDepth 20000 in
theorem gX1_digestWithHeading_X1_endOfSees : GoodIn wsX1_digestWithHeading (wsV RX1 152 RX1 yX1_endOfSees wsX1_endOfSees) := goodIn_app (goodIn_of _ (by decide +kernel)) ggX1_digestWithHeading_X1_endOfSees
set_option maxRecDepth 20000 in
theorem ggX1_digestWithHeading_X1_countReached : GoodIn wsX1_digestWithHeading wsX1_countReached := goodIn_r _ [53, 54, 55, 4, 56, 57, 58, 59, 60, 12, 61, 62, 63, 64, 38, 33, 39, 40, 41, 42, 43, 44, 45, 92, 93, 94, 95, 96, 97, 98, 99, 100] (by decide +kernel) (by decide +kernel)
set_option maxRecDepth 20000 in
theorem gX1_digestWithHeading_X1_countReached : GoodIn wsX1_digestWithHeading (wsV RX1 161 RX1 yX1_countReached wsX1_countReached) := goodIn_app (goodIn_of _ (by decide +kernel)) ggX1_digestWithHeading_X1_countReached
set_option maxRecDepth 20000 in
theorem ggX1_digestWithHeading_X1_comesBack : GoodIn wsX1_digestWithHeading wsX1_comesBack := goodIn_r _ [68, 54, 55, 4, 56, 61, 62, 63, 64, 12, 38, 33, 57, 58, 59, 60, 92, 93, 94, 95, 96, 97, 98, 99, 100] (by decide +kernel) (by decide +kernel)
set_option maxRecDepth 20000 in
theorem gX1_digestWithHeading_X1_comesBack : GoodIn wsX1_digestWithHeading (wsV RX1 164 RX1 yX1_comesBack wsX1_comesBack) := goodIn_app (goodIn_of _ (by decide +kernel)) ggX1_digestWithHeading_X1_comesBack
set_option maxRecDepth 20000 in
theorem ggX1_digestWithHeading_X1_nearestOther : GoodIn wsX1_digestWithHeading wsX1_nearestOther := goodIn_r _ [72, 12, 1, 2, 3, 4, 5, 6, 7, 8, 9, 10, 11, 73, 74, 75, 16, 76, 18, 28, 77, 78, 79, 80, 27, 81, 82, 83, 92, 93, 94, 95, 96, 97, 98, 99, 100, 101, 102, 103] (by decide +kernel) (by decide +kernel)
set_option maxRecDepth 20000 in
theorem gX1_digestWithHeading_X1_nearestOther : GoodIn wsX1_digestWithHeading (wsV RX1 176 RX1 yX1_nearestOther wsX1_nearestOther) := goodIn_app (goodIn_of _ (by decide +kernel)) ggX1_digestWithHeading_X1_nearestOther
set_option maxRecDepth 20000 in
theorem ggX1_digestWithHeading_X0_first : GoodIn wsX1_digestWithHeading wsX0_first := goodIn_r _ [87, 18, 28, 101, 102, 103] (by decide +kernel) (by decide +kernel)
set_option maxRecDepth 20000 in
theorem gX1_digestWithHeading_X0_first : GoodIn wsX1_digestWithHeading (wsV RX1 136 RX0 yX0_first wsX0_first) := goodIn_app (goodIn_of _ (by decide +kernel)) ggX1_digestWithHeading_X0_first
set_option maxRecDepth 20000 in
theorem ggX1_digestWithHeading_X0_last : GoodIn wsX1_digestWithHeading wsX0_last := goodIn_r _ [91, 18, 27, 101, 102, 103] (by decide +kernel) (by decide +kernel)
set_option maxRecDepth 20000 in
theorem gX1_digestWithHeading_X0_last : GoodIn wsX1_digestWithHeading (wsV RX1 139 RX0 yX0_last wsX0_last) := goodIn_app (goodIn_of _ (by decide +kernel)) ggX1_digestWithHeading_X0_last
theorem dX1_digestWithHeading_0 : decode cX1_digestWithHeading 0 = .ok (.aload_n 0, 1) := by decide +kernel
theorem dX1_digestWithHeading_1 : decode cX1_digestWithHeading 1 = .ok (.iload_n 3, 1) := by decide +kernel
theorem dX1_digestWithHeading_2 : decode cX1_digestWithHeading 2 = .ok (.invokevirtual 64, 3) := by decide +kernel
theorem dX1_digestWithHeading_5 : decode cX1_digestWithHeading 5 = .ok (.astore 4, 2) := by decide +kernel
theorem dX1_digestWithHeading_7 : decode cX1_digestWithHeading 7 = .ok (.lload_n 1, 1) := by decide +kernel
theorem dX1_digestWithHeading_8 : decode cX1_digestWithHeading 8 = .ok (.aload 4, 2) := by decide +kernel
theorem dX1_digestWithHeading_10 : decode cX1_digestWithHeading 10 = .ok (.invokevirtual 82, 3) := by decide +kernel
theorem dX1_digestWithHeading_13 : decode cX1_digestWithHeading 13 = .ok (.i2l, 1) := by decide +kernel
theorem dX1_digestWithHeading_14 : decode cX1_digestWithHeading 14 = .ok (.invokestatic 184, 3) := by decide +kernel
theorem dX1_digestWithHeading_17 : decode cX1_digestWithHeading 17 = .ok (.lstore 5, 2) := by decide +kernel
theorem dX1_digestWithHeading_19 : decode cX1_digestWithHeading 19 = .ok (.lload 5, 2) := by decide +kernel
theorem dX1_digestWithHeading_21 : decode cX1_digestWithHeading 21 = .ok (.aload 4, 2) := by decide +kernel
theorem dX1_digestWithHeading_23 : decode cX1_digestWithHeading 23 = .ok (.invokevirtual 90, 3) := by decide +kernel
theorem dX1_digestWithHeading_26 : decode cX1_digestWithHeading 26 = .ok (.i2l, 1) := by decide +kernel
theorem dX1_digestWithHeading_27 : decode cX1_digestWithHeading 27 = .ok (.invokestatic 184, 3) := by decide +kernel
theorem dX1_digestWithHeading_30 : decode cX1_digestWithHeading 30 = .ok (.lstore 5, 2) := by decide +kernel
theorem dX1_digestWithHeading_32 : decode cX1_digestWithHeading 32 = .ok (.lload 5, 2) := by decide +kernel
theorem dX1_digestWithHeading_34 : decode cX1_digestWithHeading 34 = .ok (.aload_n 0, 1) := by decide +kernel
theorem dX1_digestWithHeading_35 : decode cX1_digestWithHeading 35 = .ok (.iload_n 3, 1) := by decide +kernel
theorem dX1_digestWithHeading_36 : decode cX1_digestWithHeading 36 = .ok (.invokevirtual 58, 3) := by decide +kernel
theorem dX1_digestWithHeading_39 : decode cX1_digestWithHeading 39 = .ok (.i2l, 1) := by decide +kernel
theorem dX1_digestWithHeading_40 : decode cX1_digestWithHeading 40 = .ok (.invokestatic 184, 3) := by decide +kernel
theorem dX1_digestWithHeading_43 : decode cX1_digestWithHeading 43 = .ok (.lstore 5, 2) := by decide +kernel
theorem dX1_digestWithHeading_45 : decode cX1_digestWithHeading 45 = .ok (.lload 5, 2) := by decide +kernel
theorem dX1_digestWithHeading_47 : decode cX1_digestWithHeading 47 = .ok (.aload_n 0, 1) := by decide +kernel
theorem dX1_digestWithHeading_48 : decode cX1_digestWithHeading 48 = .ok (.iload_n 3, 1) := by decide +kernel
theorem dX1_digestWithHeading_49 : decode cX1_digestWithHeading 49 = .ok (.invokevirtual 142, 3) := by decide +kernel
theorem dX1_digestWithHeading_52 : decode cX1_digestWithHeading 52 = .ok (.i2l, 1) := by decide +kernel
theorem dX1_digestWithHeading_53 : decode cX1_digestWithHeading 53 = .ok (.invokestatic 184, 3) := by decide +kernel
theorem dX1_digestWithHeading_56 : decode cX1_digestWithHeading 56 = .ok (.lstore 5, 2) := by decide +kernel
theorem dX1_digestWithHeading_58 : decode cX1_digestWithHeading 58 = .ok (.lload 5, 2) := by decide +kernel
theorem dX1_digestWithHeading_60 : decode cX1_digestWithHeading 60 = .ok (.aload_n 0, 1) := by decide +kernel
theorem dX1_digestWithHeading_61 : decode cX1_digestWithHeading 61 = .ok (.iload_n 3, 1) := by decide +kernel
theorem dX1_digestWithHeading_62 : decode cX1_digestWithHeading 62 = .ok (.invokevirtual 152, 3) := by decide +kernel
theorem dX1_digestWithHeading_65 : decode cX1_digestWithHeading 65 = .ok (.i2l, 1) := by decide +kernel
theorem dX1_digestWithHeading_66 : decode cX1_digestWithHeading 66 = .ok (.invokestatic 184, 3) := by decide +kernel
theorem dX1_digestWithHeading_69 : decode cX1_digestWithHeading 69 = .ok (.lstore 5, 2) := by decide +kernel
theorem dX1_digestWithHeading_71 : decode cX1_digestWithHeading 71 = .ok (.lload 5, 2) := by decide +kernel
theorem dX1_digestWithHeading_73 : decode cX1_digestWithHeading 73 = .ok (.aload_n 0, 1) := by decide +kernel
theorem dX1_digestWithHeading_74 : decode cX1_digestWithHeading 74 = .ok (.iload_n 3, 1) := by decide +kernel
theorem dX1_digestWithHeading_75 : decode cX1_digestWithHeading 75 = .ok (.invokevirtual 161, 3) := by decide +kernel
theorem dX1_digestWithHeading_78 : decode cX1_digestWithHeading 78 = .ok (.i2l, 1) := by decide +kernel
theorem dX1_digestWithHeading_79 : decode cX1_digestWithHeading 79 = .ok (.invokestatic 184, 3) := by decide +kernel
theorem dX1_digestWithHeading_82 : decode cX1_digestWithHeading 82 = .ok (.lstore 5, 2) := by decide +kernel
theorem dX1_digestWithHeading_84 : decode cX1_digestWithHeading 84 = .ok (.lload 5, 2) := by decide +kernel
theorem dX1_digestWithHeading_86 : decode cX1_digestWithHeading 86 = .ok (.aload_n 0, 1) := by decide +kernel
theorem dX1_digestWithHeading_87 : decode cX1_digestWithHeading 87 = .ok (.iload_n 3, 1) := by decide +kernel
theorem dX1_digestWithHeading_88 : decode cX1_digestWithHeading 88 = .ok (.invokevirtual 164, 3) := by decide +kernel
theorem dX1_digestWithHeading_91 : decode cX1_digestWithHeading 91 = .ok (.ifCond .eq 7, 3) := by decide +kernel
theorem dX1_digestWithHeading_94 : decode cX1_digestWithHeading 94 = .ok (.lconst 1, 1) := by decide +kernel
theorem dX1_digestWithHeading_95 : decode cX1_digestWithHeading 95 = .ok (.goto 4, 3) := by decide +kernel
theorem dX1_digestWithHeading_98 : decode cX1_digestWithHeading 98 = .ok (.lconst 0, 1) := by decide +kernel
theorem dX1_digestWithHeading_99 : decode cX1_digestWithHeading 99 = .ok (.invokestatic 184, 3) := by decide +kernel
theorem dX1_digestWithHeading_102 : decode cX1_digestWithHeading 102 = .ok (.lstore 5, 2) := by decide +kernel
theorem dX1_digestWithHeading_104 : decode cX1_digestWithHeading 104 = .ok (.lload 5, 2) := by decide +kernel
theorem dX1_digestWithHeading_106 : decode cX1_digestWithHeading 106 = .ok (.aload_n 0, 1) := by decide +kernel
theorem dX1_digestWithHeading_107 : decode cX1_digestWithHeading 107 = .ok (.iload_n 3, 1) := by decide +kernel
theorem dX1_digestWithHeading_108 : decode cX1_digestWithHeading 108 = .ok (.invokevirtual 176, 3) := by decide +kernel
theorem dX1_digestWithHeading_111 : decode cX1_digestWithHeading 111 = .ok (.i2l, 1) := by decide +kernel
theorem dX1_digestWithHeading_112 : decode cX1_digestWithHeading 112 = .ok (.invokestatic 184, 3) := by decide +kernel
theorem dX1_digestWithHeading_115 : decode cX1_digestWithHeading 115 = .ok (.lstore 5, 2) := by decide +kernel
theorem dX1_digestWithHeading_117 : decode cX1_digestWithHeading 117 = .ok (.iconst 0, 1) := by decide +kernel
theorem dX1_digestWithHeading_118 : decode cX1_digestWithHeading 118 = .ok (.istore 7, 2) := by decide +kernel
theorem dX1_digestWithHeading_120 : decode cX1_digestWithHeading 120 = .ok (.iload 7, 2) := by decide +kernel
theorem dX1_digestWithHeading_122 : decode cX1_digestWithHeading 122 = .ok (.aload 4, 2) := by decide +kernel
theorem dX1_digestWithHeading_124 : decode cX1_digestWithHeading 124 = .ok (.invokevirtual 82, 3) := by decide +kernel
theorem dX1_digestWithHeading_127 : decode cX1_digestWithHeading 127 = .ok (.if_icmp .ge 39, 3) := by decide +kernel
theorem dX1_digestWithHeading_130 : decode cX1_digestWithHeading 130 = .ok (.lload 5, 2) := by decide +kernel
theorem dX1_digestWithHeading_132 : decode cX1_digestWithHeading 132 = .ok (.aload 4, 2) := by decide +kernel
theorem dX1_digestWithHeading_134 : decode cX1_digestWithHeading 134 = .ok (.iload 7, 2) := by decide +kernel
theorem dX1_digestWithHeading_136 : decode cX1_digestWithHeading 136 = .ok (.invokevirtual 136, 3) := by decide +kernel
theorem dX1_digestWithHeading_139 : decode cX1_digestWithHeading 139 = .ok (.i2l, 1) := by decide +kernel
theorem dX1_digestWithHeading_140 : decode cX1_digestWithHeading 140 = .ok (.invokestatic 184, 3) := by decide +kernel
theorem dX1_digestWithHeading_143 : decode cX1_digestWithHeading 143 = .ok (.lstore 5, 2) := by decide +kernel
theorem dX1_digestWithHeading_145 : decode cX1_digestWithHeading 145 = .ok (.lload 5, 2) := by decide +kernel
theorem dX1_digestWithHeading_147 : decode cX1_digestWithHeading 147 = .ok (.aload 4, 2) := by decide +kernel
theorem dX1_digestWithHeading_149 : decode cX1_digestWithHeading 149 = .ok (.iload 7, 2) := by decide +kernel
theorem dX1_digestWithHeading_151 : decode cX1_digestWithHeading 151 = .ok (.invokevirtual 139, 3) := by decide +kernel
theorem dX1_digestWithHeading_154 : decode cX1_digestWithHeading 154 = .ok (.i2l, 1) := by decide +kernel
theorem dX1_digestWithHeading_155 : decode cX1_digestWithHeading 155 = .ok (.invokestatic 184, 3) := by decide +kernel
theorem dX1_digestWithHeading_158 : decode cX1_digestWithHeading 158 = .ok (.lstore 5, 2) := by decide +kernel
theorem dX1_digestWithHeading_160 : decode cX1_digestWithHeading 160 = .ok (.iinc 7 1, 3) := by decide +kernel
theorem dX1_digestWithHeading_163 : decode cX1_digestWithHeading 163 = .ok (.goto (-43), 3) := by decide +kernel
theorem dX1_digestWithHeading_166 : decode cX1_digestWithHeading 166 = .ok (.lload 5, 2) := by decide +kernel
theorem dX1_digestWithHeading_168 : decode cX1_digestWithHeading 168 = .ok (.lreturn, 1) := by decide +kernel
theorem dX1_isHeading_0 : decode cX1_isHeading 0 = .ok (.iload_n 1, 1) := by decide +kernel
theorem dX1_isHeading_1 : decode cX1_isHeading 1 = .ok (.ifCond .lt 15, 3) := by decide +kernel
theorem dX1_isHeading_4 : decode cX1_isHeading 4 = .ok (.iload_n 1, 1) := by decide +kernel
theorem dX1_isHeading_5 : decode cX1_isHeading 5 = .ok (.aload_n 0, 1) := by decide +kernel
theorem dX1_isHeading_6 : decode cX1_isHeading 6 = .ok (.getfield 36, 3) := by decide +kernel
theorem dX1_isHeading_9 : decode cX1_isHeading 9 = .ok (.if_icmp .ge 7, 3) := by decide +kernel
theorem dX1_isHeading_12 : decode cX1_isHeading 12 = .ok (.iconst 1, 1) := by decide +kernel
theorem dX1_isHeading_13 : decode cX1_isHeading 13 = .ok (.goto 4, 3) := by decide +kernel
theorem dX1_isHeading_16 : decode cX1_isHeading 16 = .ok (.iconst 0, 1) := by decide +kernel
theorem dX1_isHeading_17 : decode cX1_isHeading 17 = .ok (.ireturn, 1) := by decide +kernel
set_option maxRecDepth 20000 in
theorem ggX1_needHeading_X1_isHeading : GoodIn wsX1_needHeading wsX1_isHeading := goodIn_r _ [7, 8, 9, 10, 11, 12, 13, 14, 15, 16, 17] (by decide +kernel) (by decide +kernel)
set_option maxRecDepth 20000 in
theorem gX1_needHeading_X1_isHeading : GoodIn wsX1_needHeading (wsV RX1 209 RX1 yX1_isHeading wsX1_isHeading) := goodIn_app (goodIn_of _ (by decide +kernel)) ggX1_needHeading_X1_isHeading
theorem dX1_needHeading_0 : decode cX1_needHeading 0 = .ok (.aload_n 0, 1) := by decide +kernel
theorem dX1_needHeading_1 : decode cX1_needHeading 1 = .ok (.iload_n 1, 1) := by decide +kernel
theorem dX1_needHeading_2 : decode cX1_needHeading 2 = .ok (.invokevirtual 209, 3) := by decide +kernel
theorem dX1_needHeading_5 : decode cX1_needHeading 5 = .ok (.ifCond .ne 13, 3) := by decide +kernel
theorem dX1_needHeading_8 : decode cX1_needHeading 8 = .ok (.new 212, 3) := by decide +kernel
theorem dX1_needHeading_11 : decode cX1_needHeading 11 = .ok (.dup, 1) := by decide +kernel
theorem dX1_needHeading_12 : decode cX1_needHeading 12 = .ok (.ldc 214, 2) := by decide +kernel
theorem dX1_needHeading_14 : decode cX1_needHeading 14 = .ok (.invokespecial 216, 3) := by decide +kernel
theorem dX1_needHeading_17 : decode cX1_needHeading 17 = .ok (.athrow, 1) := by decide +kernel
theorem dX1_needHeading_18 : decode cX1_needHeading 18 = .ok (.return_, 1) := by decide +kernel
set_option maxRecDepth 20000 in
theorem ggX1_needSpan_X1_spansAt : GoodIn wsX1_needSpan wsX1_spansAt := goodIn_r _ [7, 8, 9, 10, 11, 12, 6, 13, 14, 21, 22, 23, 24, 25, 26, 27, 28, 29] (by decide +kernel) (by decide +kernel)
set_option maxRecDepth 20000 in
theorem gX1_needSpan_X1_spansAt : GoodIn wsX1_needSpan (wsV RX1 64 RX1 yX1_spansAt wsX1_spansAt) := goodIn_app (goodIn_of _ (by decide +kernel)) ggX1_needSpan_X1_spansAt
set_option maxRecDepth 20000 in
theorem ggX1_needSpan_X0_count : GoodIn wsX1_needSpan wsX0_count := goodIn_r _ [19, 20, 30, 31, 32] (by decide +kernel) (by decide +kernel)
set_option maxRecDepth 20000 in
theorem gX1_needSpan_X0_count : GoodIn wsX1_needSpan (wsV RX1 82 RX0 yX0_count wsX0_count) := goodIn_app (goodIn_of _ (by decide +kernel)) ggX1_needSpan_X0_count
theorem dX1_needSpan_0 : decode cX1_needSpan 0 = .ok (.iload_n 2, 1) := by decide +kernel
theorem dX1_needSpan_1 : decode cX1_needSpan 1 = .ok (.ifCond .lt 15, 3) := by decide +kernel
theorem dX1_needSpan_4 : decode cX1_needSpan 4 = .ok (.iload_n 2, 1) := by decide +kernel
theorem dX1_needSpan_5 : decode cX1_needSpan 5 = .ok (.aload_n 0, 1) := by decide +kernel
theorem dX1_needSpan_6 : decode cX1_needSpan 6 = .ok (.iload_n 1, 1) := by decide +kernel
theorem dX1_needSpan_7 : decode cX1_needSpan 7 = .ok (.invokevirtual 64, 3) := by decide +kernel
theorem dX1_needSpan_10 : decode cX1_needSpan 10 = .ok (.invokevirtual 82, 3) := by decide +kernel
theorem dX1_needSpan_13 : decode cX1_needSpan 13 = .ok (.if_icmp .lt 13, 3) := by decide +kernel
theorem dX1_needSpan_16 : decode cX1_needSpan 16 = .ok (.new 212, 3) := by decide +kernel
theorem dX1_needSpan_19 : decode cX1_needSpan 19 = .ok (.dup, 1) := by decide +kernel
theorem dX1_needSpan_20 : decode cX1_needSpan 20 = .ok (.ldc 217, 2) := by decide +kernel
theorem dX1_needSpan_22 : decode cX1_needSpan 22 = .ok (.invokespecial 216, 3) := by decide +kernel
theorem dX1_needSpan_25 : decode cX1_needSpan 25 = .ok (.athrow, 1) := by decide +kernel
theorem dX1_needSpan_26 : decode cX1_needSpan 26 = .ok (.return_, 1) := by decide +kernel
theorem dX1_needPage_0 : decode cX1_needPage 0 = .ok (.iload_n 1, 1) := by decide +kernel
theorem dX1_needPage_1 : decode cX1_needPage 1 = .ok (.iconst 1, 1) := by decide +kernel
theorem dX1_needPage_2 : decode cX1_needPage 2 = .ok (.if_icmp .lt 11, 3) := by decide +kernel
theorem dX1_needPage_5 : decode cX1_needPage 5 = .ok (.iload_n 1, 1) := by decide +kernel
theorem dX1_needPage_6 : decode cX1_needPage 6 = .ok (.aload_n 0, 1) := by decide +kernel
theorem dX1_needPage_7 : decode cX1_needPage 7 = .ok (.getfield 40, 3) := by decide +kernel
theorem dX1_needPage_10 : decode cX1_needPage 10 = .ok (.if_icmp .le 13, 3) := by decide +kernel
theorem dX1_needPage_13 : decode cX1_needPage 13 = .ok (.new 109, 3) := by decide +kernel
theorem dX1_needPage_16 : decode cX1_needPage 16 = .ok (.dup, 1) := by decide +kernel
theorem dX1_needPage_17 : decode cX1_needPage 17 = .ok (.ldc 219, 2) := by decide +kernel
theorem dX1_needPage_19 : decode cX1_needPage 19 = .ok (.invokespecial 113, 3) := by decide +kernel
theorem dX1_needPage_22 : decode cX1_needPage 22 = .ok (.athrow, 1) := by decide +kernel
theorem dX1_needPage_23 : decode cX1_needPage 23 = .ok (.return_, 1) := by decide +kernel
theorem dX1_needPages_0 : decode cX1_needPages 0 = .ok (.iload_n 1, 1) := by decide +kernel
theorem dX1_needPages_1 : decode cX1_needPages 1 = .ok (.iconst 1, 1) := by decide +kernel
theorem dX1_needPages_2 : decode cX1_needPages 2 = .ok (.if_icmp .lt 16, 3) := by decide +kernel
theorem dX1_needPages_5 : decode cX1_needPages 5 = .ok (.iload_n 2, 1) := by decide +kernel
theorem dX1_needPages_6 : decode cX1_needPages 6 = .ok (.aload_n 0, 1) := by decide +kernel
theorem dX1_needPages_7 : decode cX1_needPages 7 = .ok (.getfield 40, 3) := by decide +kernel
theorem dX1_needPages_10 : decode cX1_needPages 10 = .ok (.if_icmp .gt 8, 3) := by decide +kernel
theorem dX1_needPages_13 : decode cX1_needPages 13 = .ok (.iload_n 2, 1) := by decide +kernel
theorem dX1_needPages_14 : decode cX1_needPages 14 = .ok (.iload_n 1, 1) := by decide +kernel
theorem dX1_needPages_15 : decode cX1_needPages 15 = .ok (.if_icmp .ge 13, 3) := by decide +kernel
theorem dX1_needPages_18 : decode cX1_needPages 18 = .ok (.new 109, 3) := by decide +kernel
theorem dX1_needPages_21 : decode cX1_needPages 21 = .ok (.dup, 1) := by decide +kernel
theorem dX1_needPages_22 : decode cX1_needPages 22 = .ok (.ldc 221, 2) := by decide +kernel
theorem dX1_needPages_24 : decode cX1_needPages 24 = .ok (.invokespecial 113, 3) := by decide +kernel
theorem dX1_needPages_27 : decode cX1_needPages 27 = .ok (.athrow, 1) := by decide +kernel
theorem dX1_needPages_28 : decode cX1_needPages 28 = .ok (.return_, 1) := by decide +kernel
theorem dX1_needTwo_0 : decode cX1_needTwo 0 = .ok (.iload_n 1, 1) := by decide +kernel
theorem dX1_needTwo_1 : decode cX1_needTwo 1 = .ok (.iload_n 2, 1) := by decide +kernel
theorem dX1_needTwo_2 : decode cX1_needTwo 2 = .ok (.if_icmp .ne 13, 3) := by decide +kernel
theorem dX1_needTwo_5 : decode cX1_needTwo 5 = .ok (.new 109, 3) := by decide +kernel
theorem dX1_needTwo_8 : decode cX1_needTwo 8 = .ok (.dup, 1) := by decide +kernel
theorem dX1_needTwo_9 : decode cX1_needTwo 9 = .ok (.ldc 223, 2) := by decide +kernel
theorem dX1_needTwo_11 : decode cX1_needTwo 11 = .ok (.invokespecial 113, 3) := by decide +kernel
theorem dX1_needTwo_14 : decode cX1_needTwo 14 = .ok (.athrow, 1) := by decide +kernel
theorem dX1_needTwo_15 : decode cX1_needTwo 15 = .ok (.return_, 1) := by decide +kernel
set_option maxRecDepth 20000 in
theorem ggX1_needNoPages_X1_spansAt : GoodIn wsX1_needNoPages wsX1_spansAt := goodIn_r _ [7, 8, 9, 10, 11, 12, 6, 13, 14, 21, 22, 23, 24, 25, 26, 27, 28, 29] (by decide +kernel) (by decide +kernel)
set_option maxRecDepth 20000 in
theorem gX1_needNoPages_X1_spansAt : GoodIn wsX1_needNoPages (wsV RX1 64 RX1 yX1_spansAt wsX1_spansAt) := goodIn_app (goodIn_of _ (by decide +kernel)) ggX1_needNoPages_X1_spansAt
set_option maxRecDepth 20000 in
theorem ggX1_needNoPages_X0_count : GoodIn wsX1_needNoPages wsX0_count := goodIn_r _ [19, 20, 30, 31, 32] (by decide +kernel) (by decide +kernel)
set_option maxRecDepth 20000 in
theorem gX1_needNoPages_X0_count : GoodIn wsX1_needNoPages (wsV RX1 82 RX0 yX0_count wsX0_count) := goodIn_app (goodIn_of _ (by decide +kernel)) ggX1_needNoPages_X0_count
theorem dX1_needNoPages_0 : decode cX1_needNoPages 0 = .ok (.aload_n 0, 1) := by decide +kernel
theorem dX1_needNoPages_1 : decode cX1_needNoPages 1 = .ok (.iload_n 1, 1) := by decide +kernel
theorem dX1_needNoPages_2 : decode cX1_needNoPages 2 = .ok (.invokevirtual 64, 3) := by decide +kernel
theorem dX1_needNoPages_5 : decode cX1_needNoPages 5 = .ok (.invokevirtual 82, 3) := by decide +kernel
theorem dX1_needNoPages_8 : decode cX1_needNoPages 8 = .ok (.ifCond .le 13, 3) := by decide +kernel
theorem dX1_needNoPages_11 : decode cX1_needNoPages 11 = .ok (.new 43, 3) := by decide +kernel
theorem dX1_needNoPages_14 : decode cX1_needNoPages 14 = .ok (.dup, 1) := by decide +kernel
theorem dX1_needNoPages_15 : decode cX1_needNoPages 15 = .ok (.ldc 225, 2) := by decide +kernel
theorem dX1_needNoPages_17 : decode cX1_needNoPages 17 = .ok (.invokespecial 47, 3) := by decide +kernel
theorem dX1_needNoPages_20 : decode cX1_needNoPages 20 = .ok (.athrow, 1) := by decide +kernel
theorem dX1_needNoPages_21 : decode cX1_needNoPages 21 = .ok (.return_, 1) := by decide +kernel
set_option maxRecDepth 20000 in
theorem ggX1_needRoomForMade_X0_count : GoodIn wsX1_needRoomForMade wsX0_count := goodIn_r _ [8, 9, 19, 20, 21] (by decide +kernel) (by decide +kernel)
set_option maxRecDepth 20000 in
theorem gX1_needRoomForMade_X0_count : GoodIn wsX1_needRoomForMade (wsV RX1 82 RX0 yX0_count wsX0_count) := goodIn_app (goodIn_of _ (by decide +kernel)) ggX1_needRoomForMade_X0_count
theorem dX1_needRoomForMade_0 : decode cX1_needRoomForMade 0 = .ok (.aload_n 0, 1) := by decide +kernel
theorem dX1_needRoomForMade_1 : decode cX1_needRoomForMade 1 = .ok (.getfield 30, 3) := by decide +kernel
theorem dX1_needRoomForMade_4 : decode cX1_needRoomForMade 4 = .ok (.invokevirtual 82, 3) := by decide +kernel
theorem dX1_needRoomForMade_7 : decode cX1_needRoomForMade 7 = .ok (.bipush 8, 2) := by decide +kernel
theorem dX1_needRoomForMade_9 : decode cX1_needRoomForMade 9 = .ok (.if_icmp .le 13, 3) := by decide +kernel
theorem dX1_needRoomForMade_12 : decode cX1_needRoomForMade 12 = .ok (.new 43, 3) := by decide +kernel
theorem dX1_needRoomForMade_15 : decode cX1_needRoomForMade 15 = .ok (.dup, 1) := by decide +kernel
theorem dX1_needRoomForMade_16 : decode cX1_needRoomForMade 16 = .ok (.ldc 227, 2) := by decide +kernel
theorem dX1_needRoomForMade_18 : decode cX1_needRoomForMade 18 = .ok (.invokespecial 47, 3) := by decide +kernel
theorem dX1_needRoomForMade_21 : decode cX1_needRoomForMade 21 = .ok (.athrow, 1) := by decide +kernel
theorem dX1_needRoomForMade_22 : decode cX1_needRoomForMade 22 = .ok (.return_, 1) := by decide +kernel
set_option maxRecDepth 20000 in
theorem ggX1_spansAt_X1_isHeading : GoodIn wsX1_spansAt wsX1_isHeading := goodIn_r _ [7, 8, 9, 10, 11, 12, 13, 14, 15, 16, 17] (by decide +kernel) (by decide +kernel)
set_option maxRecDepth 20000 in
theorem gX1_spansAt_X1_isHeading : GoodIn wsX1_spansAt (wsV RX1 209 RX1 yX1_isHeading wsX1_isHeading) := goodIn_app (goodIn_of _ (by decide +kernel)) ggX1_spansAt_X1_isHeading
theorem dX1_spansAt_0 : decode cX1_spansAt 0 = .ok (.aload_n 0, 1) := by decide +kernel
theorem dX1_spansAt_1 : decode cX1_spansAt 1 = .ok (.iload_n 1, 1) := by decide +kernel
theorem dX1_spansAt_2 : decode cX1_spansAt 2 = .ok (.invokevirtual 209, 3) := by decide +kernel
theorem dX1_spansAt_5 : decode cX1_spansAt 5 = .ok (.ifCond .eq 12, 3) := by decide +kernel
theorem dX1_spansAt_8 : decode cX1_spansAt 8 = .ok (.aload_n 0, 1) := by decide +kernel
theorem dX1_spansAt_9 : decode cX1_spansAt 9 = .ok (.getfield 11, 3) := by decide +kernel
theorem dX1_spansAt_12 : decode cX1_spansAt 12 = .ok (.iload_n 1, 1) := by decide +kernel
theorem dX1_spansAt_13 : decode cX1_spansAt 13 = .ok (.aaload, 1) := by decide +kernel
theorem dX1_spansAt_14 : decode cX1_spansAt 14 = .ok (.goto 4, 3) := by decide +kernel
theorem dX1_spansAt_17 : decode cX1_spansAt 17 = .ok (.aconst_null, 1) := by decide +kernel
theorem dX1_spansAt_18 : decode cX1_spansAt 18 = .ok (.astore_n 2, 1) := by decide +kernel
theorem dX1_spansAt_19 : decode cX1_spansAt 19 = .ok (.aload_n 2, 1) := by decide +kernel
theorem dX1_spansAt_20 : decode cX1_spansAt 20 = .ok (.ifnonnull 10, 3) := by decide +kernel
theorem dX1_spansAt_23 : decode cX1_spansAt 23 = .ok (.aload_n 0, 1) := by decide +kernel
theorem dX1_spansAt_24 : decode cX1_spansAt 24 = .ok (.getfield 33, 3) := by decide +kernel
theorem dX1_spansAt_27 : decode cX1_spansAt 27 = .ok (.goto 4, 3) := by decide +kernel
theorem dX1_spansAt_30 : decode cX1_spansAt 30 = .ok (.aload_n 2, 1) := by decide +kernel
theorem dX1_spansAt_31 : decode cX1_spansAt 31 = .ok (.areturn, 1) := by decide +kernel
set_option maxRecDepth 20000 in
theorem ggX1_seeAt_X1_isHeading : GoodIn wsX1_seeAt wsX1_isHeading := goodIn_r _ [6, 7, 8, 9, 10, 11, 12, 13, 14, 15, 16] (by decide +kernel) (by decide +kernel)
set_option maxRecDepth 20000 in
theorem gX1_seeAt_X1_isHeading : GoodIn wsX1_seeAt (wsV RX1 209 RX1 yX1_isHeading wsX1_isHeading) := goodIn_app (goodIn_of _ (by decide +kernel)) ggX1_seeAt_X1_isHeading
theorem dX1_seeAt_0 : decode cX1_seeAt 0 = .ok (.aload_n 0, 1) := by decide +kernel
theorem dX1_seeAt_1 : decode cX1_seeAt 1 = .ok (.iload_n 1, 1) := by decide +kernel
theorem dX1_seeAt_2 : decode cX1_seeAt 2 = .ok (.invokevirtual 209, 3) := by decide +kernel
theorem dX1_seeAt_5 : decode cX1_seeAt 5 = .ok (.ifCond .eq 12, 3) := by decide +kernel
theorem dX1_seeAt_8 : decode cX1_seeAt 8 = .ok (.aload_n 0, 1) := by decide +kernel
theorem dX1_seeAt_9 : decode cX1_seeAt 9 = .ok (.getfield 16, 3) := by decide +kernel
theorem dX1_seeAt_12 : decode cX1_seeAt 12 = .ok (.iload_n 1, 1) := by decide +kernel
theorem dX1_seeAt_13 : decode cX1_seeAt 13 = .ok (.iaload, 1) := by decide +kernel
theorem dX1_seeAt_14 : decode cX1_seeAt 14 = .ok (.goto 4, 3) := by decide +kernel
theorem dX1_seeAt_17 : decode cX1_seeAt 17 = .ok (.iconst (-1), 1) := by decide +kernel
theorem dX1_seeAt_18 : decode cX1_seeAt 18 = .ok (.ireturn, 1) := by decide +kernel
set_option maxRecDepth 20000 in
theorem ggX1_countSeeAlsos_X1_isHeading : GoodIn wsX1_countSeeAlsos wsX1_isHeading := goodIn_r _ [6, 7, 15, 16, 17, 18, 19, 20, 21, 22, 23] (by decide +kernel) (by decide +kernel)
set_option maxRecDepth 20000 in
theorem gX1_countSeeAlsos_X1_isHeading : GoodIn wsX1_countSeeAlsos (wsV RX1 209 RX1 yX1_isHeading wsX1_isHeading) := goodIn_app (goodIn_of _ (by decide +kernel)) ggX1_countSeeAlsos_X1_isHeading
set_option maxRecDepth 20000 in
theorem ggX1_countSeeAlsos_J6_bitCount_0f7a4 : GoodIn wsX1_countSeeAlsos wsJ6_bitCount_0f7a4 := goodIn_r _ [11, 12, 13, 14] (by decide +kernel) (by decide +kernel)
set_option maxRecDepth 20000 in
theorem gX1_countSeeAlsos_J6_bitCount_0f7a4 : GoodIn wsX1_countSeeAlsos (va_wsS RX1 102 yJ6_bitCount_0f7a4 wsJ6_bitCount_0f7a4) := goodIn_app (goodIn_of _ (by decide +kernel)) ggX1_countSeeAlsos_J6_bitCount_0f7a4
theorem dX1_countSeeAlsos_0 : decode cX1_countSeeAlsos 0 = .ok (.aload_n 0, 1) := by decide +kernel
theorem dX1_countSeeAlsos_1 : decode cX1_countSeeAlsos 1 = .ok (.iload_n 1, 1) := by decide +kernel
theorem dX1_countSeeAlsos_2 : decode cX1_countSeeAlsos 2 = .ok (.invokevirtual 209, 3) := by decide +kernel
theorem dX1_countSeeAlsos_5 : decode cX1_countSeeAlsos 5 = .ok (.ifCond .eq 15, 3) := by decide +kernel
theorem dX1_countSeeAlsos_8 : decode cX1_countSeeAlsos 8 = .ok (.aload_n 0, 1) := by decide +kernel
theorem dX1_countSeeAlsos_9 : decode cX1_countSeeAlsos 9 = .ok (.getfield 20, 3) := by decide +kernel
theorem dX1_countSeeAlsos_12 : decode cX1_countSeeAlsos 12 = .ok (.iload_n 1, 1) := by decide +kernel
theorem dX1_countSeeAlsos_13 : decode cX1_countSeeAlsos 13 = .ok (.iaload, 1) := by decide +kernel
theorem dX1_countSeeAlsos_14 : decode cX1_countSeeAlsos 14 = .ok (.invokestatic 102, 3) := by decide +kernel
theorem dX1_countSeeAlsos_17 : decode cX1_countSeeAlsos 17 = .ok (.goto 4, 3) := by decide +kernel
theorem dX1_countSeeAlsos_20 : decode cX1_countSeeAlsos 20 = .ok (.iconst 0, 1) := by decide +kernel
theorem dX1_countSeeAlsos_21 : decode cX1_countSeeAlsos 21 = .ok (.ireturn, 1) := by decide +kernel
set_option maxRecDepth 20000 in
theorem ggX1_countHeadingsOn_X1_spansAt : GoodIn wsX1_countHeadingsOn wsX1_spansAt := goodIn_r _ [6, 7, 8, 9, 10, 11, 5, 12, 1, 21, 22, 23, 24, 25, 26, 27, 28, 29] (by decide +kernel) (by decide +kernel)
set_option maxRecDepth 20000 in
theorem gX1_countHeadingsOn_X1_spansAt : GoodIn wsX1_countHeadingsOn (wsV RX1 64 RX1 yX1_spansAt wsX1_spansAt) := goodIn_app (goodIn_of _ (by decide +kernel)) ggX1_countHeadingsOn_X1_spansAt
set_option maxRecDepth 20000 in
theorem ggX1_countHeadingsOn_X0_has : GoodIn wsX1_countHeadingsOn wsX0_has := goodIn_r _ [17, 18, 19, 20, 30, 31, 32] (by decide +kernel) (by decide +kernel)
set_option maxRecDepth 20000 in
theorem gX1_countHeadingsOn_X0_has : GoodIn wsX1_countHeadingsOn (wsV RX1 145 RX0 yX0_has wsX0_has) := goodIn_app (goodIn_of _ (by decide +kernel)) ggX1_countHeadingsOn_X0_has
theorem dX1_countHeadingsOn_0 : decode cX1_countHeadingsOn 0 = .ok (.iconst 0, 1) := by decide +kernel
theorem dX1_countHeadingsOn_1 : decode cX1_countHeadingsOn 1 = .ok (.istore_n 2, 1) := by decide +kernel
theorem dX1_countHeadingsOn_2 : decode cX1_countHeadingsOn 2 = .ok (.iconst 0, 1) := by decide +kernel
theorem dX1_countHeadingsOn_3 : decode cX1_countHeadingsOn 3 = .ok (.istore_n 3, 1) := by decide +kernel
theorem dX1_countHeadingsOn_4 : decode cX1_countHeadingsOn 4 = .ok (.iload_n 3, 1) := by decide +kernel
theorem dX1_countHeadingsOn_5 : decode cX1_countHeadingsOn 5 = .ok (.aload_n 0, 1) := by decide +kernel
theorem dX1_countHeadingsOn_6 : decode cX1_countHeadingsOn 6 = .ok (.getfield 36, 3) := by decide +kernel
theorem dX1_countHeadingsOn_9 : decode cX1_countHeadingsOn 9 = .ok (.if_icmp .ge 24, 3) := by decide +kernel
theorem dX1_countHeadingsOn_12 : decode cX1_countHeadingsOn 12 = .ok (.aload_n 0, 1) := by decide +kernel
theorem dX1_countHeadingsOn_13 : decode cX1_countHeadingsOn 13 = .ok (.iload_n 3, 1) := by decide +kernel
theorem dX1_countHeadingsOn_14 : decode cX1_countHeadingsOn 14 = .ok (.invokevirtual 64, 3) := by decide +kernel
theorem dX1_countHeadingsOn_17 : decode cX1_countHeadingsOn 17 = .ok (.iload_n 1, 1) := by decide +kernel
theorem dX1_countHeadingsOn_18 : decode cX1_countHeadingsOn 18 = .ok (.invokevirtual 145, 3) := by decide +kernel
theorem dX1_countHeadingsOn_21 : decode cX1_countHeadingsOn 21 = .ok (.ifCond .eq 6, 3) := by decide +kernel
theorem dX1_countHeadingsOn_24 : decode cX1_countHeadingsOn 24 = .ok (.iinc 2 1, 3) := by decide +kernel
theorem dX1_countHeadingsOn_27 : decode cX1_countHeadingsOn 27 = .ok (.iinc 3 1, 3) := by decide +kernel
theorem dX1_countHeadingsOn_30 : decode cX1_countHeadingsOn 30 = .ok (.goto (-26), 3) := by decide +kernel
theorem dX1_countHeadingsOn_33 : decode cX1_countHeadingsOn 33 = .ok (.iload_n 2, 1) := by decide +kernel
theorem dX1_countHeadingsOn_34 : decode cX1_countHeadingsOn 34 = .ok (.ireturn, 1) := by decide +kernel
set_option maxRecDepth 20000 in
theorem ggX1_tallyHeadingsByPage_X1_spansAt : GoodIn wsX1_tallyHeadingsByPage wsX1_spansAt := goodIn_r _ [7, 8, 9, 10, 11, 12, 6, 13, 2, 38, 39, 40, 41, 42, 43, 44, 45, 46] (by decide +kernel) (by decide +kernel)
set_option maxRecDepth 20000 in
theorem gX1_tallyHeadingsByPage_X1_spansAt : GoodIn wsX1_tallyHeadingsByPage (wsV RX1 64 RX1 yX1_spansAt wsX1_spansAt) := goodIn_app (goodIn_of _ (by decide +kernel)) ggX1_tallyHeadingsByPage_X1_spansAt
set_option maxRecDepth 20000 in
theorem ggX1_tallyHeadingsByPage_X1_tallyEnds : GoodIn wsX1_tallyHeadingsByPage wsX1_tallyEnds := goodIn_r _ [17, 18, 19, 20, 21, 22, 23, 24, 25, 26, 27, 28, 29, 30, 31, 6, 32, 1, 33, 34, 35, 36, 37, 47, 48, 49, 38, 39, 40, 41, 42, 43, 44, 45, 46] (by decide +kernel) (by decide +kernel)
set_option maxRecDepth 20000 in
theorem gX1_tallyHeadingsByPage_X1_tallyEnds : GoodIn wsX1_tallyHeadingsByPage (wsV RX1 229 RX1 yX1_tallyEnds wsX1_tallyEnds) := goodIn_app (goodIn_of _ (by decide +kernel)) ggX1_tallyHeadingsByPage_X1_tallyEnds
theorem dX1_tallyHeadingsByPage_0 : decode cX1_tallyHeadingsByPage 0 = .ok (.iconst 0, 1) := by decide +kernel
theorem dX1_tallyHeadingsByPage_1 : decode cX1_tallyHeadingsByPage 1 = .ok (.istore_n 1, 1) := by decide +kernel
theorem dX1_tallyHeadingsByPage_2 : decode cX1_tallyHeadingsByPage 2 = .ok (.iload_n 1, 1) := by decide +kernel
theorem dX1_tallyHeadingsByPage_3 : decode cX1_tallyHeadingsByPage 3 = .ok (.aload_n 0, 1) := by decide +kernel
theorem dX1_tallyHeadingsByPage_4 : decode cX1_tallyHeadingsByPage 4 = .ok (.getfield 23, 3) := by decide +kernel
theorem dX1_tallyHeadingsByPage_7 : decode cX1_tallyHeadingsByPage 7 = .ok (.arraylength, 1) := by decide +kernel
theorem dX1_tallyHeadingsByPage_8 : decode cX1_tallyHeadingsByPage 8 = .ok (.if_icmp .ge 16, 3) := by decide +kernel
theorem dX1_tallyHeadingsByPage_11 : decode cX1_tallyHeadingsByPage 11 = .ok (.aload_n 0, 1) := by decide +kernel
theorem dX1_tallyHeadingsByPage_12 : decode cX1_tallyHeadingsByPage 12 = .ok (.getfield 23, 3) := by decide +kernel
theorem dX1_tallyHeadingsByPage_15 : decode cX1_tallyHeadingsByPage 15 = .ok (.iload_n 1, 1) := by decide +kernel
theorem dX1_tallyHeadingsByPage_16 : decode cX1_tallyHeadingsByPage 16 = .ok (.iconst 0, 1) := by decide +kernel
theorem dX1_tallyHeadingsByPage_17 : decode cX1_tallyHeadingsByPage 17 = .ok (.iastore, 1) := by decide +kernel
theorem dX1_tallyHeadingsByPage_18 : decode cX1_tallyHeadingsByPage 18 = .ok (.iinc 1 1, 3) := by decide +kernel
theorem dX1_tallyHeadingsByPage_21 : decode cX1_tallyHeadingsByPage 21 = .ok (.goto (-19), 3) := by decide +kernel
theorem dX1_tallyHeadingsByPage_24 : decode cX1_tallyHeadingsByPage 24 = .ok (.iconst 0, 1) := by decide +kernel
theorem dX1_tallyHeadingsByPage_25 : decode cX1_tallyHeadingsByPage 25 = .ok (.istore_n 1, 1) := by decide +kernel
theorem dX1_tallyHeadingsByPage_26 : decode cX1_tallyHeadingsByPage 26 = .ok (.iload_n 1, 1) := by decide +kernel
theorem dX1_tallyHeadingsByPage_27 : decode cX1_tallyHeadingsByPage 27 = .ok (.aload_n 0, 1) := by decide +kernel
theorem dX1_tallyHeadingsByPage_28 : decode cX1_tallyHeadingsByPage 28 = .ok (.getfield 36, 3) := by decide +kernel
theorem dX1_tallyHeadingsByPage_31 : decode cX1_tallyHeadingsByPage 31 = .ok (.if_icmp .ge 18, 3) := by decide +kernel
theorem dX1_tallyHeadingsByPage_34 : decode cX1_tallyHeadingsByPage 34 = .ok (.aload_n 0, 1) := by decide +kernel
theorem dX1_tallyHeadingsByPage_35 : decode cX1_tallyHeadingsByPage 35 = .ok (.aload_n 0, 1) := by decide +kernel
theorem dX1_tallyHeadingsByPage_36 : decode cX1_tallyHeadingsByPage 36 = .ok (.iload_n 1, 1) := by decide +kernel
theorem dX1_tallyHeadingsByPage_37 : decode cX1_tallyHeadingsByPage 37 = .ok (.invokevirtual 64, 3) := by decide +kernel
theorem dX1_tallyHeadingsByPage_40 : decode cX1_tallyHeadingsByPage 40 = .ok (.invokevirtual 229, 3) := by decide +kernel
theorem dX1_tallyHeadingsByPage_43 : decode cX1_tallyHeadingsByPage 43 = .ok (.iinc 1 1, 3) := by decide +kernel
theorem dX1_tallyHeadingsByPage_46 : decode cX1_tallyHeadingsByPage 46 = .ok (.goto (-20), 3) := by decide +kernel
theorem dX1_tallyHeadingsByPage_49 : decode cX1_tallyHeadingsByPage 49 = .ok (.iconst 1, 1) := by decide +kernel
theorem dX1_tallyHeadingsByPage_50 : decode cX1_tallyHeadingsByPage 50 = .ok (.istore_n 1, 1) := by decide +kernel
theorem dX1_tallyHeadingsByPage_51 : decode cX1_tallyHeadingsByPage 51 = .ok (.iload_n 1, 1) := by decide +kernel
theorem dX1_tallyHeadingsByPage_52 : decode cX1_tallyHeadingsByPage 52 = .ok (.aload_n 0, 1) := by decide +kernel
theorem dX1_tallyHeadingsByPage_53 : decode cX1_tallyHeadingsByPage 53 = .ok (.getfield 23, 3) := by decide +kernel
theorem dX1_tallyHeadingsByPage_56 : decode cX1_tallyHeadingsByPage 56 = .ok (.arraylength, 1) := by decide +kernel
theorem dX1_tallyHeadingsByPage_57 : decode cX1_tallyHeadingsByPage 57 = .ok (.if_icmp .ge 26, 3) := by decide +kernel
theorem dX1_tallyHeadingsByPage_60 : decode cX1_tallyHeadingsByPage 60 = .ok (.aload_n 0, 1) := by decide +kernel
theorem dX1_tallyHeadingsByPage_61 : decode cX1_tallyHeadingsByPage 61 = .ok (.getfield 23, 3) := by decide +kernel
theorem dX1_tallyHeadingsByPage_64 : decode cX1_tallyHeadingsByPage 64 = .ok (.iload_n 1, 1) := by decide +kernel
theorem dX1_tallyHeadingsByPage_65 : decode cX1_tallyHeadingsByPage 65 = .ok (.dup2, 1) := by decide +kernel
theorem dX1_tallyHeadingsByPage_66 : decode cX1_tallyHeadingsByPage 66 = .ok (.iaload, 1) := by decide +kernel
theorem dX1_tallyHeadingsByPage_67 : decode cX1_tallyHeadingsByPage 67 = .ok (.aload_n 0, 1) := by decide +kernel
theorem dX1_tallyHeadingsByPage_68 : decode cX1_tallyHeadingsByPage 68 = .ok (.getfield 23, 3) := by decide +kernel
theorem dX1_tallyHeadingsByPage_71 : decode cX1_tallyHeadingsByPage 71 = .ok (.iload_n 1, 1) := by decide +kernel
theorem dX1_tallyHeadingsByPage_72 : decode cX1_tallyHeadingsByPage 72 = .ok (.iconst 1, 1) := by decide +kernel
theorem dX1_tallyHeadingsByPage_73 : decode cX1_tallyHeadingsByPage 73 = .ok (.isub, 1) := by decide +kernel
theorem dX1_tallyHeadingsByPage_74 : decode cX1_tallyHeadingsByPage 74 = .ok (.iaload, 1) := by decide +kernel
theorem dX1_tallyHeadingsByPage_75 : decode cX1_tallyHeadingsByPage 75 = .ok (.iadd, 1) := by decide +kernel
theorem dX1_tallyHeadingsByPage_76 : decode cX1_tallyHeadingsByPage 76 = .ok (.iastore, 1) := by decide +kernel
theorem dX1_tallyHeadingsByPage_77 : decode cX1_tallyHeadingsByPage 77 = .ok (.iinc 1 1, 3) := by decide +kernel
theorem dX1_tallyHeadingsByPage_80 : decode cX1_tallyHeadingsByPage 80 = .ok (.goto (-29), 3) := by decide +kernel
theorem dX1_tallyHeadingsByPage_83 : decode cX1_tallyHeadingsByPage 83 = .ok (.return_, 1) := by decide +kernel
set_option maxRecDepth 20000 in
theorem ggX1_tallyEnds_X0_count : GoodIn wsX1_tallyEnds wsX0_count := goodIn_r _ [5, 6, 23, 24, 25] (by decide +kernel) (by decide +kernel)
set_option maxRecDepth 20000 in
theorem gX1_tallyEnds_X0_count : GoodIn wsX1_tallyEnds (wsV RX1 82 RX0 yX0_count wsX0_count) := goodIn_app (goodIn_of _ (by decide +kernel)) ggX1_tallyEnds_X0_count
set_option maxRecDepth 20000 in
theorem ggX1_tallyEnds_X0_first : GoodIn wsX1_tallyEnds wsX0_first := goodIn_r _ [10, 6, 11, 23, 24, 25] (by decide +kernel) (by decide +kernel)
set_option maxRecDepth 20000 in
theorem gX1_tallyEnds_X0_first : GoodIn wsX1_tallyEnds (wsV RX1 136 RX0 yX0_first wsX0_first) := goodIn_app (goodIn_of _ (by decide +kernel)) ggX1_tallyEnds_X0_first
set_option maxRecDepth 20000 in
theorem ggX1_tallyEnds_X1_tallyAt : GoodIn wsX1_tallyEnds wsX1_tallyAt := goodIn_r _ [16, 17, 26, 27, 28, 29, 30, 31, 32, 33, 34] (by decide +kernel) (by decide +kernel)
set_option maxRecDepth 20000 in
theorem gX1_tallyEnds_X1_tallyAt : GoodIn wsX1_tallyEnds (wsV RX1 232 RX1 yX1_tallyAt wsX1_tallyAt) := goodIn_app (goodIn_of _ (by decide +kernel)) ggX1_tallyEnds_X1_tallyAt
set_option maxRecDepth 20000 in
theorem ggX1_tallyEnds_X0_last : GoodIn wsX1_tallyEnds wsX0_last := goodIn_r _ [21, 6, 22, 23, 24, 25] (by decide +kernel) (by decide +kernel)
set_option maxRecDepth 20000 in
theorem gX1_tallyEnds_X0_last : GoodIn wsX1_tallyEnds (wsV RX1 139 RX0 yX0_last wsX0_last) := goodIn_app (goodIn_of _ (by decide +kernel)) ggX1_tallyEnds_X0_last
theorem dX1_tallyEnds_0 : decode cX1_tallyEnds 0 = .ok (.iconst 0, 1) := by decide +kernel
theorem dX1_tallyEnds_1 : decode cX1_tallyEnds 1 = .ok (.istore_n 2, 1) := by decide +kernel
theorem dX1_tallyEnds_2 : decode cX1_tallyEnds 2 = .ok (.iload_n 2, 1) := by decide +kernel
theorem dX1_tallyEnds_3 : decode cX1_tallyEnds 3 = .ok (.aload_n 1, 1) := by decide +kernel
theorem dX1_tallyEnds_4 : decode cX1_tallyEnds 4 = .ok (.invokevirtual 82, 3) := by decide +kernel
theorem dX1_tallyEnds_7 : decode cX1_tallyEnds 7 = .ok (.if_icmp .ge 31, 3) := by decide +kernel
theorem dX1_tallyEnds_10 : decode cX1_tallyEnds 10 = .ok (.aload_n 0, 1) := by decide +kernel
theorem dX1_tallyEnds_11 : decode cX1_tallyEnds 11 = .ok (.aload_n 1, 1) := by decide +kernel
theorem dX1_tallyEnds_12 : decode cX1_tallyEnds 12 = .ok (.iload_n 2, 1) := by decide +kernel
theorem dX1_tallyEnds_13 : decode cX1_tallyEnds 13 = .ok (.invokevirtual 136, 3) := by decide +kernel
theorem dX1_tallyEnds_16 : decode cX1_tallyEnds 16 = .ok (.iconst 1, 1) := by decide +kernel
theorem dX1_tallyEnds_17 : decode cX1_tallyEnds 17 = .ok (.invokevirtual 232, 3) := by decide +kernel
theorem dX1_tallyEnds_20 : decode cX1_tallyEnds 20 = .ok (.aload_n 0, 1) := by decide +kernel
theorem dX1_tallyEnds_21 : decode cX1_tallyEnds 21 = .ok (.aload_n 1, 1) := by decide +kernel
theorem dX1_tallyEnds_22 : decode cX1_tallyEnds 22 = .ok (.iload_n 2, 1) := by decide +kernel
theorem dX1_tallyEnds_23 : decode cX1_tallyEnds 23 = .ok (.invokevirtual 139, 3) := by decide +kernel
theorem dX1_tallyEnds_26 : decode cX1_tallyEnds 26 = .ok (.iconst 1, 1) := by decide +kernel
theorem dX1_tallyEnds_27 : decode cX1_tallyEnds 27 = .ok (.iadd, 1) := by decide +kernel
theorem dX1_tallyEnds_28 : decode cX1_tallyEnds 28 = .ok (.iconst (-1), 1) := by decide +kernel
theorem dX1_tallyEnds_29 : decode cX1_tallyEnds 29 = .ok (.invokevirtual 232, 3) := by decide +kernel
theorem dX1_tallyEnds_32 : decode cX1_tallyEnds 32 = .ok (.iinc 2 1, 3) := by decide +kernel
theorem dX1_tallyEnds_35 : decode cX1_tallyEnds 35 = .ok (.goto (-33), 3) := by decide +kernel
theorem dX1_tallyEnds_38 : decode cX1_tallyEnds 38 = .ok (.return_, 1) := by decide +kernel
theorem dX1_tallyAt_0 : decode cX1_tallyAt 0 = .ok (.iload_n 1, 1) := by decide +kernel
theorem dX1_tallyAt_1 : decode cX1_tallyAt 1 = .ok (.ifCond .lt 22, 3) := by decide +kernel
theorem dX1_tallyAt_4 : decode cX1_tallyAt 4 = .ok (.iload_n 1, 1) := by decide +kernel
theorem dX1_tallyAt_5 : decode cX1_tallyAt 5 = .ok (.aload_n 0, 1) := by decide +kernel
theorem dX1_tallyAt_6 : decode cX1_tallyAt 6 = .ok (.getfield 23, 3) := by decide +kernel
theorem dX1_tallyAt_9 : decode cX1_tallyAt 9 = .ok (.arraylength, 1) := by decide +kernel
theorem dX1_tallyAt_10 : decode cX1_tallyAt 10 = .ok (.if_icmp .ge 13, 3) := by decide +kernel
theorem dX1_tallyAt_13 : decode cX1_tallyAt 13 = .ok (.aload_n 0, 1) := by decide +kernel
theorem dX1_tallyAt_14 : decode cX1_tallyAt 14 = .ok (.getfield 23, 3) := by decide +kernel
theorem dX1_tallyAt_17 : decode cX1_tallyAt 17 = .ok (.iload_n 1, 1) := by decide +kernel
theorem dX1_tallyAt_18 : decode cX1_tallyAt 18 = .ok (.dup2, 1) := by decide +kernel
theorem dX1_tallyAt_19 : decode cX1_tallyAt 19 = .ok (.iaload, 1) := by decide +kernel
theorem dX1_tallyAt_20 : decode cX1_tallyAt 20 = .ok (.iload_n 2, 1) := by decide +kernel
theorem dX1_tallyAt_21 : decode cX1_tallyAt 21 = .ok (.iadd, 1) := by decide +kernel
theorem dX1_tallyAt_22 : decode cX1_tallyAt 22 = .ok (.iastore, 1) := by decide +kernel
theorem dX1_tallyAt_23 : decode cX1_tallyAt 23 = .ok (.return_, 1) := by decide +kernel
set_option maxRecDepth 20000 in
theorem ggX1_nearestOther_X1_spansAt : GoodIn wsX1_nearestOther wsX1_spansAt := goodIn_r _ [6, 7, 8, 9, 10, 11, 5, 12, 1, 28, 29, 30, 31, 32, 33, 34, 35, 36] (by decide +kernel) (by decide +kernel)
set_option maxRecDepth 20000 in
theorem gX1_nearestOther_X1_spansAt : GoodIn wsX1_nearestOther (wsV RX1 64 RX1 yX1_spansAt wsX1_spansAt) := goodIn_app (goodIn_of _ (by decide +kernel)) ggX1_nearestOther_X1_spansAt
set_option maxRecDepth 20000 in
theorem ggX1_nearestOther_X0_pagesInCommon : GoodIn wsX1_nearestOther wsX0_pagesInCommon := goodIn_r _ [17, 18, 19, 20, 21, 22, 23, 24, 25, 26, 27, 37, 38, 39] (by decide +kernel) (by decide +kernel)
set_option maxRecDepth 20000 in
theorem gX1_nearestOther_X0_pagesInCommon : GoodIn wsX1_nearestOther (wsV RX1 172 RX0 yX0_pagesInCommon wsX0_pagesInCommon) := goodIn_app (goodIn_of _ (by decide +kernel)) ggX1_nearestOther_X0_pagesInCommon
theorem dX1_nearestOther_0 : decode cX1_nearestOther 0 = .ok (.iconst (-1), 1) := by decide +kernel
theorem dX1_nearestOther_1 : decode cX1_nearestOther 1 = .ok (.istore_n 2, 1) := by decide +kernel
theorem dX1_nearestOther_2 : decode cX1_nearestOther 2 = .ok (.iconst 0, 1) := by decide +kernel
theorem dX1_nearestOther_3 : decode cX1_nearestOther 3 = .ok (.istore_n 3, 1) := by decide +kernel
theorem dX1_nearestOther_4 : decode cX1_nearestOther 4 = .ok (.iconst 0, 1) := by decide +kernel
theorem dX1_nearestOther_5 : decode cX1_nearestOther 5 = .ok (.istore 4, 2) := by decide +kernel
theorem dX1_nearestOther_7 : decode cX1_nearestOther 7 = .ok (.iload 4, 2) := by decide +kernel
theorem dX1_nearestOther_9 : decode cX1_nearestOther 9 = .ok (.aload_n 0, 1) := by decide +kernel
theorem dX1_nearestOther_10 : decode cX1_nearestOther 10 = .ok (.getfield 36, 3) := by decide +kernel
theorem dX1_nearestOther_13 : decode cX1_nearestOther 13 = .ok (.if_icmp .ge 47, 3) := by decide +kernel
theorem dX1_nearestOther_16 : decode cX1_nearestOther 16 = .ok (.iload 4, 2) := by decide +kernel
theorem dX1_nearestOther_18 : decode cX1_nearestOther 18 = .ok (.iload_n 1, 1) := by decide +kernel
theorem dX1_nearestOther_19 : decode cX1_nearestOther 19 = .ok (.if_icmp .ne 7, 3) := by decide +kernel
theorem dX1_nearestOther_22 : decode cX1_nearestOther 22 = .ok (.iconst 0, 1) := by decide +kernel
theorem dX1_nearestOther_23 : decode cX1_nearestOther 23 = .ok (.goto 17, 3) := by decide +kernel
theorem dX1_nearestOther_26 : decode cX1_nearestOther 26 = .ok (.aload_n 0, 1) := by decide +kernel
theorem dX1_nearestOther_27 : decode cX1_nearestOther 27 = .ok (.iload_n 1, 1) := by decide +kernel
theorem dX1_nearestOther_28 : decode cX1_nearestOther 28 = .ok (.invokevirtual 64, 3) := by decide +kernel
theorem dX1_nearestOther_31 : decode cX1_nearestOther 31 = .ok (.aload_n 0, 1) := by decide +kernel
theorem dX1_nearestOther_32 : decode cX1_nearestOther 32 = .ok (.iload 4, 2) := by decide +kernel
theorem dX1_nearestOther_34 : decode cX1_nearestOther 34 = .ok (.invokevirtual 64, 3) := by decide +kernel
theorem dX1_nearestOther_37 : decode cX1_nearestOther 37 = .ok (.invokevirtual 172, 3) := by decide +kernel
theorem dX1_nearestOther_40 : decode cX1_nearestOther 40 = .ok (.istore 5, 2) := by decide +kernel
theorem dX1_nearestOther_42 : decode cX1_nearestOther 42 = .ok (.iload 5, 2) := by decide +kernel
theorem dX1_nearestOther_44 : decode cX1_nearestOther 44 = .ok (.iload_n 3, 1) := by decide +kernel
theorem dX1_nearestOther_45 : decode cX1_nearestOther 45 = .ok (.if_icmp .le 9, 3) := by decide +kernel
theorem dX1_nearestOther_48 : decode cX1_nearestOther 48 = .ok (.iload 4, 2) := by decide +kernel
theorem dX1_nearestOther_50 : decode cX1_nearestOther 50 = .ok (.istore_n 2, 1) := by decide +kernel
theorem dX1_nearestOther_51 : decode cX1_nearestOther 51 = .ok (.iload 5, 2) := by decide +kernel
theorem dX1_nearestOther_53 : decode cX1_nearestOther 53 = .ok (.istore_n 3, 1) := by decide +kernel
theorem dX1_nearestOther_54 : decode cX1_nearestOther 54 = .ok (.iinc 4 1, 3) := by decide +kernel
theorem dX1_nearestOther_57 : decode cX1_nearestOther 57 = .ok (.goto (-50), 3) := by decide +kernel
theorem dX1_nearestOther_60 : decode cX1_nearestOther 60 = .ok (.iload_n 2, 1) := by decide +kernel
theorem dX1_nearestOther_61 : decode cX1_nearestOther 61 = .ok (.ireturn, 1) := by decide +kernel
theorem dX1_only_0 : decode cX1_only 0 = .ok (.iconst 1, 1) := by decide +kernel
theorem dX1_only_1 : decode cX1_only 1 = .ok (.iload_n 0, 1) := by decide +kernel
theorem dX1_only_2 : decode cX1_only 2 = .ok (.ishl, 1) := by decide +kernel
theorem dX1_only_3 : decode cX1_only 3 = .ok (.ireturn, 1) := by decide +kernel
set_option maxRecDepth 20000 in
theorem ggX1_endOfSees_X1_seeAt : GoodIn wsX1_endOfSees wsX1_seeAt := goodIn_r _ [6, 7, 8, 9, 10, 5, 11, 1, 12, 13, 14, 15, 16, 17, 18, 19, 20] (by decide +kernel) (by decide +kernel)
set_option maxRecDepth 20000 in
theorem gX1_endOfSees_X1_seeAt : GoodIn wsX1_endOfSees (wsV RX1 58 RX1 yX1_seeAt wsX1_seeAt) := goodIn_app (goodIn_of _ (by decide +kernel)) ggX1_endOfSees_X1_seeAt
theorem dX1_endOfSees_0 : decode cX1_endOfSees 0 = .ok (.iload_n 1, 1) := by decide +kernel
theorem dX1_endOfSees_1 : decode cX1_endOfSees 1 = .ok (.istore_n 2, 1) := by decide +kernel
theorem dX1_endOfSees_2 : decode cX1_endOfSees 2 = .ok (.iconst 0, 1) := by decide +kernel
theorem dX1_endOfSees_3 : decode cX1_endOfSees 3 = .ok (.istore_n 3, 1) := by decide +kernel
theorem dX1_endOfSees_4 : decode cX1_endOfSees 4 = .ok (.iload_n 3, 1) := by decide +kernel
theorem dX1_endOfSees_5 : decode cX1_endOfSees 5 = .ok (.aload_n 0, 1) := by decide +kernel
theorem dX1_endOfSees_6 : decode cX1_endOfSees 6 = .ok (.getfield 36, 3) := by decide +kernel
theorem dX1_endOfSees_9 : decode cX1_endOfSees 9 = .ok (.if_icmp .ge 27, 3) := by decide +kernel
theorem dX1_endOfSees_12 : decode cX1_endOfSees 12 = .ok (.aload_n 0, 1) := by decide +kernel
theorem dX1_endOfSees_13 : decode cX1_endOfSees 13 = .ok (.iload_n 2, 1) := by decide +kernel
theorem dX1_endOfSees_14 : decode cX1_endOfSees 14 = .ok (.invokevirtual 58, 3) := by decide +kernel
theorem dX1_endOfSees_17 : decode cX1_endOfSees 17 = .ok (.istore 4, 2) := by decide +kernel
theorem dX1_endOfSees_19 : decode cX1_endOfSees 19 = .ok (.iload 4, 2) := by decide +kernel
theorem dX1_endOfSees_21 : decode cX1_endOfSees 21 = .ok (.iconst (-1), 1) := by decide +kernel
theorem dX1_endOfSees_22 : decode cX1_endOfSees 22 = .ok (.if_icmp .ne 5, 3) := by decide +kernel
theorem dX1_endOfSees_25 : decode cX1_endOfSees 25 = .ok (.iload_n 2, 1) := by decide +kernel
theorem dX1_endOfSees_26 : decode cX1_endOfSees 26 = .ok (.ireturn, 1) := by decide +kernel
theorem dX1_endOfSees_27 : decode cX1_endOfSees 27 = .ok (.iload 4, 2) := by decide +kernel
theorem dX1_endOfSees_29 : decode cX1_endOfSees 29 = .ok (.istore_n 2, 1) := by decide +kernel
theorem dX1_endOfSees_30 : decode cX1_endOfSees 30 = .ok (.iinc 3 1, 3) := by decide +kernel
theorem dX1_endOfSees_33 : decode cX1_endOfSees 33 = .ok (.goto (-29), 3) := by decide +kernel
theorem dX1_endOfSees_36 : decode cX1_endOfSees 36 = .ok (.iconst (-1), 1) := by decide +kernel
theorem dX1_endOfSees_37 : decode cX1_endOfSees 37 = .ok (.ireturn, 1) := by decide +kernel
set_option maxRecDepth 20000 in
theorem ggX1_isVainEnd_X1_spansAt : GoodIn wsX1_isVainEnd wsX1_spansAt := goodIn_r _ [5, 6, 7, 8, 9, 10, 4, 11, 12, 19, 20, 21, 22, 23, 24, 25, 26, 27] (by decide +kernel) (by decide +kernel)
set_option maxRecDepth 20000 in
theorem gX1_isVainEnd_X1_spansAt : GoodIn wsX1_isVainEnd (wsV RX1 64 RX1 yX1_spansAt wsX1_spansAt) := goodIn_app (goodIn_of _ (by decide +kernel)) ggX1_isVainEnd_X1_spansAt
set_option maxRecDepth 20000 in
theorem ggX1_isVainEnd_X0_count : GoodIn wsX1_isVainEnd wsX0_count := goodIn_r _ [17, 18, 28, 29, 30] (by decide +kernel) (by decide +kernel)
set_option maxRecDepth 20000 in
theorem gX1_isVainEnd_X0_count : GoodIn wsX1_isVainEnd (wsV RX1 82 RX0 yX0_count wsX0_count) := goodIn_app (goodIn_of _ (by decide +kernel)) ggX1_isVainEnd_X0_count
theorem dX1_isVainEnd_0 : decode cX1_isVainEnd 0 = .ok (.iload_n 1, 1) := by decide +kernel
theorem dX1_isVainEnd_1 : decode cX1_isVainEnd 1 = .ok (.iconst (-1), 1) := by decide +kernel
theorem dX1_isVainEnd_2 : decode cX1_isVainEnd 2 = .ok (.if_icmp .eq 14, 3) := by decide +kernel
theorem dX1_isVainEnd_5 : decode cX1_isVainEnd 5 = .ok (.aload_n 0, 1) := by decide +kernel
theorem dX1_isVainEnd_6 : decode cX1_isVainEnd 6 = .ok (.iload_n 1, 1) := by decide +kernel
theorem dX1_isVainEnd_7 : decode cX1_isVainEnd 7 = .ok (.invokevirtual 64, 3) := by decide +kernel
theorem dX1_isVainEnd_10 : decode cX1_isVainEnd 10 = .ok (.invokevirtual 82, 3) := by decide +kernel
theorem dX1_isVainEnd_13 : decode cX1_isVainEnd 13 = .ok (.ifCond .ne 7, 3) := by decide +kernel
theorem dX1_isVainEnd_16 : decode cX1_isVainEnd 16 = .ok (.iconst 1, 1) := by decide +kernel
theorem dX1_isVainEnd_17 : decode cX1_isVainEnd 17 = .ok (.goto 4, 3) := by decide +kernel
theorem dX1_isVainEnd_20 : decode cX1_isVainEnd 20 = .ok (.iconst 0, 1) := by decide +kernel
theorem dX1_isVainEnd_21 : decode cX1_isVainEnd 21 = .ok (.ireturn, 1) := by decide +kernel
set_option maxRecDepth 20000 in
theorem ggX1_oneStepFrom_X1_only : GoodIn wsX1_oneStepFrom wsX1_only := goodIn_r _ [7] (by decide +kernel) (by decide +kernel)
set_option maxRecDepth 20000 in
theorem gX1_oneStepFrom_X1_only : GoodIn wsX1_oneStepFrom (va_wsS RX1 99 yX1_only wsX1_only) := goodIn_app (goodIn_of _ (by decide +kernel)) ggX1_oneStepFrom_X1_only
theorem dX1_oneStepFrom_0 : decode cX1_oneStepFrom 0 = .ok (.iconst 0, 1) := by decide +kernel
theorem dX1_oneStepFrom_1 : decode cX1_oneStepFrom 1 = .ok (.istore_n 2, 1) := by decide +kernel
theorem dX1_oneStepFrom_2 : decode cX1_oneStepFrom 2 = .ok (.iconst 0, 1) := by decide +kernel
theorem dX1_oneStepFrom_3 : decode cX1_oneStepFrom 3 = .ok (.istore_n 3, 1) := by decide +kernel
theorem dX1_oneStepFrom_4 : decode cX1_oneStepFrom 4 = .ok (.iload_n 3, 1) := by decide +kernel
theorem dX1_oneStepFrom_5 : decode cX1_oneStepFrom 5 = .ok (.aload_n 0, 1) := by decide +kernel
theorem dX1_oneStepFrom_6 : decode cX1_oneStepFrom 6 = .ok (.getfield 36, 3) := by decide +kernel
theorem dX1_oneStepFrom_9 : decode cX1_oneStepFrom 9 = .ok (.if_icmp .ge 53, 3) := by decide +kernel
theorem dX1_oneStepFrom_12 : decode cX1_oneStepFrom 12 = .ok (.iload_n 1, 1) := by decide +kernel
theorem dX1_oneStepFrom_13 : decode cX1_oneStepFrom 13 = .ok (.iload_n 3, 1) := by decide +kernel
theorem dX1_oneStepFrom_14 : decode cX1_oneStepFrom 14 = .ok (.invokestatic 99, 3) := by decide +kernel
theorem dX1_oneStepFrom_17 : decode cX1_oneStepFrom 17 = .ok (.iand, 1) := by decide +kernel
theorem dX1_oneStepFrom_18 : decode cX1_oneStepFrom 18 = .ok (.ifCond .eq 38, 3) := by decide +kernel
theorem dX1_oneStepFrom_21 : decode cX1_oneStepFrom 21 = .ok (.iload_n 2, 1) := by decide +kernel
theorem dX1_oneStepFrom_22 : decode cX1_oneStepFrom 22 = .ok (.aload_n 0, 1) := by decide +kernel
theorem dX1_oneStepFrom_23 : decode cX1_oneStepFrom 23 = .ok (.getfield 20, 3) := by decide +kernel
theorem dX1_oneStepFrom_26 : decode cX1_oneStepFrom 26 = .ok (.iload_n 3, 1) := by decide +kernel
theorem dX1_oneStepFrom_27 : decode cX1_oneStepFrom 27 = .ok (.iaload, 1) := by decide +kernel
theorem dX1_oneStepFrom_28 : decode cX1_oneStepFrom 28 = .ok (.ior, 1) := by decide +kernel
theorem dX1_oneStepFrom_29 : decode cX1_oneStepFrom 29 = .ok (.istore_n 2, 1) := by decide +kernel
theorem dX1_oneStepFrom_30 : decode cX1_oneStepFrom 30 = .ok (.iload_n 2, 1) := by decide +kernel
theorem dX1_oneStepFrom_31 : decode cX1_oneStepFrom 31 = .ok (.aload_n 0, 1) := by decide +kernel
theorem dX1_oneStepFrom_32 : decode cX1_oneStepFrom 32 = .ok (.getfield 16, 3) := by decide +kernel
theorem dX1_oneStepFrom_35 : decode cX1_oneStepFrom 35 = .ok (.iload_n 3, 1) := by decide +kernel
theorem dX1_oneStepFrom_36 : decode cX1_oneStepFrom 36 = .ok (.iaload, 1) := by decide +kernel
theorem dX1_oneStepFrom_37 : decode cX1_oneStepFrom 37 = .ok (.iconst (-1), 1) := by decide +kernel
theorem dX1_oneStepFrom_38 : decode cX1_oneStepFrom 38 = .ok (.if_icmp .ne 7, 3) := by decide +kernel
theorem dX1_oneStepFrom_41 : decode cX1_oneStepFrom 41 = .ok (.iconst 0, 1) := by decide +kernel
theorem dX1_oneStepFrom_42 : decode cX1_oneStepFrom 42 = .ok (.goto 12, 3) := by decide +kernel
theorem dX1_oneStepFrom_45 : decode cX1_oneStepFrom 45 = .ok (.aload_n 0, 1) := by decide +kernel
theorem dX1_oneStepFrom_46 : decode cX1_oneStepFrom 46 = .ok (.getfield 16, 3) := by decide +kernel
theorem dX1_oneStepFrom_49 : decode cX1_oneStepFrom 49 = .ok (.iload_n 3, 1) := by decide +kernel
theorem dX1_oneStepFrom_50 : decode cX1_oneStepFrom 50 = .ok (.iaload, 1) := by decide +kernel
theorem dX1_oneStepFrom_51 : decode cX1_oneStepFrom 51 = .ok (.invokestatic 99, 3) := by decide +kernel
theorem dX1_oneStepFrom_54 : decode cX1_oneStepFrom 54 = .ok (.ior, 1) := by decide +kernel
theorem dX1_oneStepFrom_55 : decode cX1_oneStepFrom 55 = .ok (.istore_n 2, 1) := by decide +kernel
theorem dX1_oneStepFrom_56 : decode cX1_oneStepFrom 56 = .ok (.iinc 3 1, 3) := by decide +kernel
theorem dX1_oneStepFrom_59 : decode cX1_oneStepFrom 59 = .ok (.goto (-55), 3) := by decide +kernel
theorem dX1_oneStepFrom_62 : decode cX1_oneStepFrom 62 = .ok (.iload_n 2, 1) := by decide +kernel
theorem dX1_oneStepFrom_63 : decode cX1_oneStepFrom 63 = .ok (.ireturn, 1) := by decide +kernel
set_option maxRecDepth 20000 in
theorem ggX1_allStepsFrom_X1_oneStepFrom : GoodIn wsX1_allStepsFrom wsX1_oneStepFrom := goodIn_r _ [6, 1, 7, 8, 9, 10, 5, 11, 12, 13, 14, 15, 16, 17, 18, 19, 20] (by decide +kernel) (by decide +kernel)
set_option maxRecDepth 20000 in
theorem gX1_allStepsFrom_X1_oneStepFrom : GoodIn wsX1_allStepsFrom (wsV RX1 158 RX1 yX1_oneStepFrom wsX1_oneStepFrom) := goodIn_app (goodIn_of _ (by decide +kernel)) ggX1_allStepsFrom_X1_oneStepFrom
theorem dX1_allStepsFrom_0 : decode cX1_allStepsFrom 0 = .ok (.iload_n 1, 1) := by decide +kernel
theorem dX1_allStepsFrom_1 : decode cX1_allStepsFrom 1 = .ok (.istore_n 2, 1) := by decide +kernel
theorem dX1_allStepsFrom_2 : decode cX1_allStepsFrom 2 = .ok (.iconst 0, 1) := by decide +kernel
theorem dX1_allStepsFrom_3 : decode cX1_allStepsFrom 3 = .ok (.istore_n 3, 1) := by decide +kernel
theorem dX1_allStepsFrom_4 : decode cX1_allStepsFrom 4 = .ok (.iload_n 3, 1) := by decide +kernel
theorem dX1_allStepsFrom_5 : decode cX1_allStepsFrom 5 = .ok (.aload_n 0, 1) := by decide +kernel
theorem dX1_allStepsFrom_6 : decode cX1_allStepsFrom 6 = .ok (.getfield 36, 3) := by decide +kernel
theorem dX1_allStepsFrom_9 : decode cX1_allStepsFrom 9 = .ok (.if_icmp .ge 29, 3) := by decide +kernel
theorem dX1_allStepsFrom_12 : decode cX1_allStepsFrom 12 = .ok (.iload_n 2, 1) := by decide +kernel
theorem dX1_allStepsFrom_13 : decode cX1_allStepsFrom 13 = .ok (.istore 4, 2) := by decide +kernel
theorem dX1_allStepsFrom_15 : decode cX1_allStepsFrom 15 = .ok (.iload_n 2, 1) := by decide +kernel
theorem dX1_allStepsFrom_16 : decode cX1_allStepsFrom 16 = .ok (.aload_n 0, 1) := by decide +kernel
theorem dX1_allStepsFrom_17 : decode cX1_allStepsFrom 17 = .ok (.iload 4, 2) := by decide +kernel
theorem dX1_allStepsFrom_19 : decode cX1_allStepsFrom 19 = .ok (.invokevirtual 158, 3) := by decide +kernel
theorem dX1_allStepsFrom_22 : decode cX1_allStepsFrom 22 = .ok (.ior, 1) := by decide +kernel
theorem dX1_allStepsFrom_23 : decode cX1_allStepsFrom 23 = .ok (.istore_n 2, 1) := by decide +kernel
theorem dX1_allStepsFrom_24 : decode cX1_allStepsFrom 24 = .ok (.iload_n 2, 1) := by decide +kernel
theorem dX1_allStepsFrom_25 : decode cX1_allStepsFrom 25 = .ok (.iload 4, 2) := by decide +kernel
theorem dX1_allStepsFrom_27 : decode cX1_allStepsFrom 27 = .ok (.if_icmp .ne 5, 3) := by decide +kernel
theorem dX1_allStepsFrom_30 : decode cX1_allStepsFrom 30 = .ok (.iload_n 2, 1) := by decide +kernel
theorem dX1_allStepsFrom_31 : decode cX1_allStepsFrom 31 = .ok (.ireturn, 1) := by decide +kernel
theorem dX1_allStepsFrom_32 : decode cX1_allStepsFrom 32 = .ok (.iinc 3 1, 3) := by decide +kernel
theorem dX1_allStepsFrom_35 : decode cX1_allStepsFrom 35 = .ok (.goto (-31), 3) := by decide +kernel
theorem dX1_allStepsFrom_38 : decode cX1_allStepsFrom 38 = .ok (.iload_n 2, 1) := by decide +kernel
theorem dX1_allStepsFrom_39 : decode cX1_allStepsFrom 39 = .ok (.ireturn, 1) := by decide +kernel
set_option maxRecDepth 20000 in
theorem ggX1_countReached_X1_only : GoodIn wsX1_countReached wsX1_only := goodIn_r _ [4] (by decide +kernel) (by decide +kernel)
set_option maxRecDepth 20000 in
theorem gX1_countReached_X1_only : GoodIn wsX1_countReached (va_wsS RX1 99 yX1_only wsX1_only) := goodIn_app (goodIn_of _ (by decide +kernel)) ggX1_countReached_X1_only
set_option maxRecDepth 20000 in
theorem ggX1_countReached_X1_allStepsFrom : GoodIn wsX1_countReached wsX1_allStepsFrom := goodIn_r _ [8, 9, 10, 11, 12, 3, 13, 14, 15, 1, 2, 4, 23, 24, 25, 26, 27, 28, 29, 30, 31] (by decide +kernel) (by decide +kernel)
set_option maxRecDepth 20000 in
theorem gX1_countReached_X1_allStepsFrom : GoodIn wsX1_countReached (wsV RX1 235 RX1 yX1_allStepsFrom wsX1_allStepsFrom) := goodIn_app (goodIn_of _ (by decide +kernel)) ggX1_countReached_X1_allStepsFrom
set_option maxRecDepth 20000 in
theorem ggX1_countReached_J6_bitCount_0f7a4 : GoodIn wsX1_countReached wsJ6_bitCount_0f7a4 := goodIn_r _ [19, 20, 21, 22] (by decide +kernel) (by decide +kernel)
set_option maxRecDepth 20000 in
theorem gX1_countReached_J6_bitCount_0f7a4 : GoodIn wsX1_countReached (va_wsS RX1 102 yJ6_bitCount_0f7a4 wsJ6_bitCount_0f7a4) := goodIn_app (goodIn_of _ (by decide +kernel)) ggX1_countReached_J6_bitCount_0f7a4
theorem dX1_countReached_0 : decode cX1_countReached 0 = .ok (.aload_n 0, 1) := by decide +kernel
theorem dX1_countReached_1 : decode cX1_countReached 1 = .ok (.iload_n 1, 1) := by decide +kernel
theorem dX1_countReached_2 : decode cX1_countReached 2 = .ok (.invokestatic 99, 3) := by decide +kernel
theorem dX1_countReached_5 : decode cX1_countReached 5 = .ok (.invokevirtual 235, 3) := by decide +kernel
theorem dX1_countReached_8 : decode cX1_countReached 8 = .ok (.invokestatic 102, 3) := by decide +kernel
theorem dX1_countReached_11 : decode cX1_countReached 11 = .ok (.ireturn, 1) := by decide +kernel
set_option maxRecDepth 20000 in
theorem ggX1_comesBack_X1_only : GoodIn wsX1_comesBack wsX1_only := goodIn_r _ [4] (by decide +kernel) (by decide +kernel)
set_option maxRecDepth 20000 in
theorem gX1_comesBack_X1_only : GoodIn wsX1_comesBack (va_wsS RX1 99 yX1_only wsX1_only) := goodIn_app (goodIn_of _ (by decide +kernel)) ggX1_comesBack_X1_only
set_option maxRecDepth 20000 in
theorem ggX1_comesBack_X1_oneStepFrom : GoodIn wsX1_comesBack wsX1_oneStepFrom := goodIn_r _ [8, 9, 10, 11, 1, 2, 3, 4, 16, 17, 18, 19, 20, 21, 22, 23, 24] (by decide +kernel) (by decide +kernel)
set_option maxRecDepth 20000 in
theorem gX1_comesBack_X1_oneStepFrom : GoodIn wsX1_comesBack (wsV RX1 158 RX1 yX1_oneStepFrom wsX1_oneStepFrom) := goodIn_app (goodIn_of _ (by decide +kernel)) ggX1_comesBack_X1_oneStepFrom
set_option maxRecDepth 20000 in
theorem ggX1_comesBack_X1_allStepsFrom : GoodIn wsX1_comesBack wsX1_allStepsFrom := goodIn_r _ [15, 9, 5, 6, 7, 3, 8, 10, 11, 1, 2, 4, 16, 17, 18, 19, 20, 21, 22, 23, 24] (by decide +kernel) (by decide +kernel)
set_option maxRecDepth 20000 in
theorem gX1_comesBack_X1_allStepsFrom : GoodIn wsX1_comesBack (wsV RX1 235 RX1 yX1_allStepsFrom wsX1_allStepsFrom) := goodIn_app (goodIn_of _ (by decide +kernel)) ggX1_comesBack_X1_allStepsFrom
theorem dX1_comesBack_0 : decode cX1_comesBack 0 = .ok (.aload_n 0, 1) := by decide +kernel
theorem dX1_comesBack_1 : decode cX1_comesBack 1 = .ok (.iload_n 1, 1) := by decide +kernel
theorem dX1_comesBack_2 : decode cX1_comesBack 2 = .ok (.invokestatic 99, 3) := by decide +kernel
theorem dX1_comesBack_5 : decode cX1_comesBack 5 = .ok (.invokevirtual 158, 3) := by decide +kernel
theorem dX1_comesBack_8 : decode cX1_comesBack 8 = .ok (.istore_n 2, 1) := by decide +kernel
theorem dX1_comesBack_9 : decode cX1_comesBack 9 = .ok (.aload_n 0, 1) := by decide +kernel
theorem dX1_comesBack_10 : decode cX1_comesBack 10 = .ok (.iload_n 2, 1) := by decide +kernel
theorem dX1_comesBack_11 : decode cX1_comesBack 11 = .ok (.invokevirtual 235, 3) := by decide +kernel
theorem dX1_comesBack_14 : decode cX1_comesBack 14 = .ok (.iload_n 1, 1) := by decide +kernel
theorem dX1_comesBack_15 : decode cX1_comesBack 15 = .ok (.invokestatic 99, 3) := by decide +kernel
theorem dX1_comesBack_18 : decode cX1_comesBack 18 = .ok (.iand, 1) := by decide +kernel
theorem dX1_comesBack_19 : decode cX1_comesBack 19 = .ok (.ifCond .eq 7, 3) := by decide +kernel
theorem dX1_comesBack_22 : decode cX1_comesBack 22 = .ok (.iconst 1, 1) := by decide +kernel
theorem dX1_comesBack_23 : decode cX1_comesBack 23 = .ok (.goto 4, 3) := by decide +kernel
theorem dX1_comesBack_26 : decode cX1_comesBack 26 = .ok (.iconst 0, 1) := by decide +kernel
theorem dX1_comesBack_27 : decode cX1_comesBack 27 = .ok (.ireturn, 1) := by decide +kernel
end
section
theorem dX2_init_0 : decode cX2_init 0 = .ok (.aload_n 0, 1) := by decide +kernel
theorem dX2_init_1 : decode cX2_init 1 = .ok (.invokespecial 3, 3) := by decide +kernel
theorem dX2_init_4 : decode cX2_init 4 = .ok (.aload_n 0, 1) := by decide +kernel
theorem dX2_init_5 : decode cX2_init 5 = .ok (.bipush 100, 2) := by decide +kernel
theorem dX2_init_7 : decode cX2_init 7 = .ok (.putfield 9, 3) := by decide +kernel
theorem dX2_init_10 : decode cX2_init 10 = .ok (.aload_n 0, 1) := by decide +kernel
theorem dX2_init_11 : decode cX2_init 11 = .ok (.sipush 7248, 3) := by decide +kernel
theorem dX2_init_14 : decode cX2_init 14 = .ok (.newarray .boolean, 2) := by decide +kernel
theorem dX2_init_16 : decode cX2_init 16 = .ok (.putfield 13, 3) := by decide +kernel
theorem dX2_init_19 : decode cX2_init 19 = .ok (.aload_n 0, 1) := by decide +kernel
theorem dX2_init_20 : decode cX2_init 20 = .ok (.bipush 24, 2) := by decide +kernel
theorem dX2_init_22 : decode cX2_init 22 = .ok (.newarray .int, 2) := by decide +kernel
theorem dX2_init_24 : decode cX2_init 24 = .ok (.putfield 17, 3) := by decide +kernel
theorem dX2_init_27 : decode cX2_init 27 = .ok (.aload_n 0, 1) := by decide +kernel
theorem dX2_init_28 : decode cX2_init 28 = .ok (.bipush 24, 2) := by decide +kernel
theorem dX2_init_30 : decode cX2_init 30 = .ok (.newarray .int, 2) := by decide +kernel
theorem dX2_init_32 : decode cX2_init 32 = .ok (.putfield 21, 3) := by decide +kernel
theorem dX2_init_35 : decode cX2_init 35 = .ok (.return_, 1) := by decide +kernel
theorem dX2_thrown_0 : decode cX2_thrown 0 = .ok (.aload_n 0, 1) := by decide +kernel
theorem dX2_thrown_1 : decode cX2_thrown 1 = .ok (.getfield 24, 3) := by decide +kernel
theorem dX2_thrown_4 : decode cX2_thrown 4 = .ok (.ireturn, 1) := by decide +kernel
theorem dX2_no_0 : decode cX2_no 0 = .ok (.aload_n 0, 1) := by decide +kernel
theorem dX2_no_1 : decode cX2_no 1 = .ok (.iload_n 1, 1) := by decide +kernel
theorem dX2_no_2 : decode cX2_no 2 = .ok (.putfield 24, 3) := by decide +kernel
theorem dX2_no_5 : decode cX2_no 5 = .ok (.iconst 0, 1) := by decide +kernel
theorem dX2_no_6 : decode cX2_no 6 = .ok (.ireturn, 1) := by decide +kernel
theorem dX2_isNot_0 : decode cX2_isNot 0 = .ok (.aload_n 0, 1) := by decide +kernel
theorem dX2_isNot_1 : decode cX2_isNot 1 = .ok (.iload_n 1, 1) := by decide +kernel
theorem dX2_isNot_2 : decode cX2_isNot 2 = .ok (.putfield 24, 3) := by decide +kernel
theorem dX2_isNot_5 : decode cX2_isNot 5 = .ok (.iconst 0, 1) := by decide +kernel
theorem dX2_isNot_6 : decode cX2_isNot 6 = .ok (.ireturn, 1) := by decide +kernel
theorem dX2_ok_0 : decode cX2_ok 0 = .ok (.aload_n 0, 1) := by decide +kernel
theorem dX2_ok_1 : decode cX2_ok 1 = .ok (.iconst 0, 1) := by decide +kernel
theorem dX2_ok_2 : decode cX2_ok 2 = .ok (.putfield 24, 3) := by decide +kernel
theorem dX2_ok_5 : decode cX2_ok 5 = .ok (.iload_n 1, 1) := by decide +kernel
theorem dX2_ok_6 : decode cX2_ok 6 = .ok (.ireturn, 1) := by decide +kernel
theorem dX2_isIn_0 : decode cX2_isIn 0 = .ok (.iload_n 0, 1) := by decide +kernel
theorem dX2_isIn_1 : decode cX2_isIn 1 = .ok (.iload_n 1, 1) := by decide +kernel
theorem dX2_isIn_2 : decode cX2_isIn 2 = .ok (.if_icmp .lt 12, 3) := by decide +kernel
theorem dX2_isIn_5 : decode cX2_isIn 5 = .ok (.iload_n 0, 1) := by decide +kernel
theorem dX2_isIn_6 : decode cX2_isIn 6 = .ok (.iload_n 2, 1) := by decide +kernel
theorem dX2_isIn_7 : decode cX2_isIn 7 = .ok (.if_icmp .gt 7, 3) := by decide +kernel
theorem dX2_isIn_10 : decode cX2_isIn 10 = .ok (.iconst 1, 1) := by decide +kernel
theorem dX2_isIn_11 : decode cX2_isIn 11 = .ok (.goto 4, 3) := by decide +kernel
theorem dX2_isIn_14 : decode cX2_isIn 14 = .ok (.iconst 0, 1) := by decide +kernel
theorem dX2_isIn_15 : decode cX2_isIn 15 = .ok (.ireturn, 1) := by decide +kernel
set_option maxRecDepth 20000 in
theorem ggX2_isHeading_X2_isIn : GoodIn wsX2_isHeading wsX2_isIn := goodIn_r _ [5] (by decide +kernel) (by decide +kernel)
set_option maxRecDepth 20000 in
theorem gX2_isHeading_X2_isIn : GoodIn wsX2_isHeading (va_wsS RX2 30 yX2_isIn wsX2_isIn) := goodIn_app (goodIn_of _ (by decide +kernel)) ggX2_isHeading_X2_isIn
theorem dX2_isHeading_0 : decode cX2_isHeading 0 = .ok (.iload_n 1, 1) := by decide +kernel
theorem dX2_isHeading_1 : decode cX2_isHeading 1 = .ok (.iconst 0, 1) := by decide +kernel
theorem dX2_isHeading_2 : decode cX2_isHeading 2 = .ok (.aload_n 0, 1) := by decide +kernel
theorem dX2_isHeading_3 : decode cX2_isHeading 3 = .ok (.getfield 27, 3) := by decide +kernel
theorem dX2_isHeading_6 : decode cX2_isHeading 6 = .ok (.iconst 1, 1) := by decide +kernel
theorem dX2_isHeading_7 : decode cX2_isHeading 7 = .ok (.isub, 1) := by decide +kernel
theorem dX2_isHeading_8 : decode cX2_isHeading 8 = .ok (.invokestatic 30, 3) := by decide +kernel
theorem dX2_isHeading_11 : decode cX2_isHeading 11 = .ok (.ireturn, 1) := by decide +kernel
set_option maxRecDepth 20000 in
theorem ggX2_isPage_X2_isIn : GoodIn wsX2_isPage wsX2_isIn := goodIn_r _ [5] (by decide +kernel) (by decide +kernel)
set_option maxRecDepth 20000 in
theorem gX2_isPage_X2_isIn : GoodIn wsX2_isPage (va_wsS RX2 30 yX2_isIn wsX2_isIn) := goodIn_app (goodIn_of _ (by decide +kernel)) ggX2_isPage_X2_isIn
theorem dX2_isPage_0 : decode cX2_isPage 0 = .ok (.iload_n 1, 1) := by decide +kernel
theorem dX2_isPage_1 : decode cX2_isPage 1 = .ok (.iconst 1, 1) := by decide +kernel
theorem dX2_isPage_2 : decode cX2_isPage 2 = .ok (.aload_n 0, 1) := by decide +kernel
theorem dX2_isPage_3 : decode cX2_isPage 3 = .ok (.getfield 9, 3) := by decide +kernel
theorem dX2_isPage_6 : decode cX2_isPage 6 = .ok (.invokestatic 30, 3) := by decide +kernel
theorem dX2_isPage_9 : decode cX2_isPage 9 = .ok (.ireturn, 1) := by decide +kernel
theorem dX2_arePages_0 : decode cX2_arePages 0 = .ok (.iload_n 1, 1) := by decide +kernel
theorem dX2_arePages_1 : decode cX2_arePages 1 = .ok (.iconst 1, 1) := by decide +kernel
theorem dX2_arePages_2 : decode cX2_arePages 2 = .ok (.if_icmp .lt 20, 3) := by decide +kernel
theorem dX2_arePages_5 : decode cX2_arePages 5 = .ok (.iload_n 2, 1) := by decide +kernel
theorem dX2_arePages_6 : decode cX2_arePages 6 = .ok (.aload_n 0, 1) := by decide +kernel
theorem dX2_arePages_7 : decode cX2_arePages 7 = .ok (.getfield 9, 3) := by decide +kernel
theorem dX2_arePages_10 : decode cX2_arePages 10 = .ok (.if_icmp .gt 12, 3) := by decide +kernel
theorem dX2_arePages_13 : decode cX2_arePages 13 = .ok (.iload_n 2, 1) := by decide +kernel
theorem dX2_arePages_14 : decode cX2_arePages 14 = .ok (.iload_n 1, 1) := by decide +kernel
theorem dX2_arePages_15 : decode cX2_arePages 15 = .ok (.if_icmp .lt 7, 3) := by decide +kernel
theorem dX2_arePages_18 : decode cX2_arePages 18 = .ok (.iconst 1, 1) := by decide +kernel
theorem dX2_arePages_19 : decode cX2_arePages 19 = .ok (.goto 4, 3) := by decide +kernel
theorem dX2_arePages_22 : decode cX2_arePages 22 = .ok (.iconst 0, 1) := by decide +kernel
theorem dX2_arePages_23 : decode cX2_arePages 23 = .ok (.ireturn, 1) := by decide +kernel
theorem dX2_has_0 : decode cX2_has 0 = .ok (.aload_n 0, 1) := by decide +kernel
theorem dX2_has_1 : decode cX2_has 1 = .ok (.getfield 13, 3) := by decide +kernel
theorem dX2_has_4 : decode cX2_has 4 = .ok (.sipush 302, 3) := by decide +kernel
theorem dX2_has_7 : decode cX2_has 7 = .ok (.iload_n 1, 1) := by decide +kernel
theorem dX2_has_8 : decode cX2_has 8 = .ok (.imul, 1) := by decide +kernel
theorem dX2_has_9 : decode cX2_has 9 = .ok (.iload_n 2, 1) := by decide +kernel
theorem dX2_has_10 : decode cX2_has 10 = .ok (.iadd, 1) := by decide +kernel
theorem dX2_has_11 : decode cX2_has 11 = .ok (.baload, 1) := by decide +kernel
theorem dX2_has_12 : decode cX2_has 12 = .ok (.ireturn, 1) := by decide +kernel
theorem dX2_let_0 : decode cX2_let 0 = .ok (.aload_n 0, 1) := by decide +kernel
theorem dX2_let_1 : decode cX2_let 1 = .ok (.getfield 13, 3) := by decide +kernel
theorem dX2_let_4 : decode cX2_let 4 = .ok (.sipush 302, 3) := by decide +kernel
theorem dX2_let_7 : decode cX2_let 7 = .ok (.iload_n 1, 1) := by decide +kernel
theorem dX2_let_8 : decode cX2_let 8 = .ok (.imul, 1) := by decide +kernel
theorem dX2_let_9 : decode cX2_let 9 = .ok (.iload_n 2, 1) := by decide +kernel
theorem dX2_let_10 : decode cX2_let 10 = .ok (.iadd, 1) := by decide +kernel
theorem dX2_let_11 : decode cX2_let 11 = .ok (.iload_n 3, 1) := by decide +kernel
theorem dX2_let_12 : decode cX2_let 12 = .ok (.bastore, 1) := by decide +kernel
theorem dX2_let_13 : decode cX2_let 13 = .ok (.return_, 1) := by decide +kernel
set_option maxRecDepth 20000 in
theorem ggX2_spans_X2_has : GoodIn wsX2_spans wsX2_has := goodIn_r _ [6, 7, 8, 9, 10, 11, 12, 13] (by decide +kernel) (by decide +kernel)
set_option maxRecDepth 20000 in
theorem gX2_spans_X2_has : GoodIn wsX2_spans (wsV RX2 34 RX2 yX2_has wsX2_has) := goodIn_app (goodIn_of _ (by decide +kernel)) ggX2_spans_X2_has
theorem dX2_spans_0 : decode cX2_spans 0 = .ok (.iconst 0, 1) := by decide +kernel
theorem dX2_spans_1 : decode cX2_spans 1 = .ok (.istore 4, 2) := by decide +kernel
theorem dX2_spans_3 : decode cX2_spans 3 = .ok (.iconst (-1), 1) := by decide +kernel
theorem dX2_spans_4 : decode cX2_spans 4 = .ok (.istore 5, 2) := by decide +kernel
theorem dX2_spans_6 : decode cX2_spans 6 = .ok (.iconst 1, 1) := by decide +kernel
theorem dX2_spans_7 : decode cX2_spans 7 = .ok (.istore 6, 2) := by decide +kernel
theorem dX2_spans_9 : decode cX2_spans 9 = .ok (.iload 6, 2) := by decide +kernel
theorem dX2_spans_11 : decode cX2_spans 11 = .ok (.aload_n 0, 1) := by decide +kernel
theorem dX2_spans_12 : decode cX2_spans 12 = .ok (.getfield 9, 3) := by decide +kernel
theorem dX2_spans_15 : decode cX2_spans 15 = .ok (.if_icmp .gt 56, 3) := by decide +kernel
theorem dX2_spans_18 : decode cX2_spans 18 = .ok (.aload_n 0, 1) := by decide +kernel
theorem dX2_spans_19 : decode cX2_spans 19 = .ok (.iload_n 1, 1) := by decide +kernel
theorem dX2_spans_20 : decode cX2_spans 20 = .ok (.iload 6, 2) := by decide +kernel
theorem dX2_spans_22 : decode cX2_spans 22 = .ok (.invokevirtual 34, 3) := by decide +kernel
theorem dX2_spans_25 : decode cX2_spans 25 = .ok (.ifCond .ne 16, 3) := by decide +kernel
theorem dX2_spans_28 : decode cX2_spans 28 = .ok (.aload_n 0, 1) := by decide +kernel
theorem dX2_spans_29 : decode cX2_spans 29 = .ok (.iload_n 2, 1) := by decide +kernel
theorem dX2_spans_30 : decode cX2_spans 30 = .ok (.iload 6, 2) := by decide +kernel
theorem dX2_spans_32 : decode cX2_spans 32 = .ok (.invokevirtual 34, 3) := by decide +kernel
theorem dX2_spans_35 : decode cX2_spans 35 = .ok (.ifCond .ne 6, 3) := by decide +kernel
theorem dX2_spans_38 : decode cX2_spans 38 = .ok (.goto 27, 3) := by decide +kernel
theorem dX2_spans_41 : decode cX2_spans 41 = .ok (.iload 5, 2) := by decide +kernel
theorem dX2_spans_43 : decode cX2_spans 43 = .ok (.iconst (-1), 1) := by decide +kernel
theorem dX2_spans_44 : decode cX2_spans 44 = .ok (.if_icmp .eq 14, 3) := by decide +kernel
theorem dX2_spans_47 : decode cX2_spans 47 = .ok (.iload 6, 2) := by decide +kernel
theorem dX2_spans_49 : decode cX2_spans 49 = .ok (.iload 5, 2) := by decide +kernel
theorem dX2_spans_51 : decode cX2_spans 51 = .ok (.isub, 1) := by decide +kernel
theorem dX2_spans_52 : decode cX2_spans 52 = .ok (.iconst 1, 1) := by decide +kernel
theorem dX2_spans_53 : decode cX2_spans 53 = .ok (.isub, 1) := by decide +kernel
theorem dX2_spans_54 : decode cX2_spans 54 = .ok (.iload_n 3, 1) := by decide +kernel
theorem dX2_spans_55 : decode cX2_spans 55 = .ok (.if_icmp .le 6, 3) := by decide +kernel
theorem dX2_spans_58 : decode cX2_spans 58 = .ok (.iinc 4 1, 3) := by decide +kernel
theorem dX2_spans_61 : decode cX2_spans 61 = .ok (.iload 6, 2) := by decide +kernel
theorem dX2_spans_63 : decode cX2_spans 63 = .ok (.istore 5, 2) := by decide +kernel
theorem dX2_spans_65 : decode cX2_spans 65 = .ok (.iinc 6 1, 3) := by decide +kernel
theorem dX2_spans_68 : decode cX2_spans 68 = .ok (.goto (-59), 3) := by decide +kernel
theorem dX2_spans_71 : decode cX2_spans 71 = .ok (.iload 4, 2) := by decide +kernel
theorem dX2_spans_73 : decode cX2_spans 73 = .ok (.ireturn, 1) := by decide +kernel
set_option maxRecDepth 20000 in
theorem ggX2_spansWith_X2_isIn : GoodIn wsX2_spansWith wsX2_isIn := goodIn_r _ [5] (by decide +kernel) (by decide +kernel)
set_option maxRecDepth 20000 in
theorem gX2_spansWith_X2_isIn : GoodIn wsX2_spansWith (va_wsS RX2 30 yX2_isIn wsX2_isIn) := goodIn_app (goodIn_of _ (by decide +kernel)) ggX2_spansWith_X2_isIn
set_option maxRecDepth 20000 in
theorem ggX2_spansWith_X2_has : GoodIn wsX2_spansWith wsX2_has := goodIn_r _ [9, 10, 11, 12, 13, 14, 15, 16] (by decide +kernel) (by decide +kernel)
set_option maxRecDepth 20000 in
theorem gX2_spansWith_X2_has : GoodIn wsX2_spansWith (wsV RX2 34 RX2 yX2_has wsX2_has) := goodIn_app (goodIn_of _ (by decide +kernel)) ggX2_spansWith_X2_has
theorem dX2_spansWith_0 : decode cX2_spansWith 0 = .ok (.iconst 0, 1) := by decide +kernel
theorem dX2_spansWith_1 : decode cX2_spansWith 1 = .ok (.istore 5, 2) := by decide +kernel
theorem dX2_spansWith_3 : decode cX2_spansWith 3 = .ok (.iconst 0, 1) := by decide +kernel
theorem dX2_spansWith_4 : decode cX2_spansWith 4 = .ok (.istore 6, 2) := by decide +kernel
theorem dX2_spansWith_6 : decode cX2_spansWith 6 = .ok (.iconst 1, 1) := by decide +kernel
theorem dX2_spansWith_7 : decode cX2_spansWith 7 = .ok (.istore 7, 2) := by decide +kernel
theorem dX2_spansWith_9 : decode cX2_spansWith 9 = .ok (.iload 7, 2) := by decide +kernel
theorem dX2_spansWith_11 : decode cX2_spansWith 11 = .ok (.aload_n 0, 1) := by decide +kernel
theorem dX2_spansWith_12 : decode cX2_spansWith 12 = .ok (.getfield 9, 3) := by decide +kernel
theorem dX2_spansWith_15 : decode cX2_spansWith 15 = .ok (.if_icmp .gt 57, 3) := by decide +kernel
theorem dX2_spansWith_18 : decode cX2_spansWith 18 = .ok (.iload 7, 2) := by decide +kernel
theorem dX2_spansWith_20 : decode cX2_spansWith 20 = .ok (.iload_n 2, 1) := by decide +kernel
theorem dX2_spansWith_21 : decode cX2_spansWith 21 = .ok (.iload_n 3, 1) := by decide +kernel
theorem dX2_spansWith_22 : decode cX2_spansWith 22 = .ok (.invokestatic 30, 3) := by decide +kernel
theorem dX2_spansWith_25 : decode cX2_spansWith 25 = .ok (.ifCond .eq 8, 3) := by decide +kernel
theorem dX2_spansWith_28 : decode cX2_spansWith 28 = .ok (.iload 4, 2) := by decide +kernel
theorem dX2_spansWith_30 : decode cX2_spansWith 30 = .ok (.goto 10, 3) := by decide +kernel
theorem dX2_spansWith_33 : decode cX2_spansWith 33 = .ok (.aload_n 0, 1) := by decide +kernel
theorem dX2_spansWith_34 : decode cX2_spansWith 34 = .ok (.iload_n 1, 1) := by decide +kernel
theorem dX2_spansWith_35 : decode cX2_spansWith 35 = .ok (.iload 7, 2) := by decide +kernel
theorem dX2_spansWith_37 : decode cX2_spansWith 37 = .ok (.invokevirtual 34, 3) := by decide +kernel
theorem dX2_spansWith_40 : decode cX2_spansWith 40 = .ok (.istore 8, 2) := by decide +kernel
theorem dX2_spansWith_42 : decode cX2_spansWith 42 = .ok (.iload 5, 2) := by decide +kernel
theorem dX2_spansWith_44 : decode cX2_spansWith 44 = .ok (.iload 8, 2) := by decide +kernel
theorem dX2_spansWith_46 : decode cX2_spansWith 46 = .ok (.ifCond .eq 12, 3) := by decide +kernel
theorem dX2_spansWith_49 : decode cX2_spansWith 49 = .ok (.iload 6, 2) := by decide +kernel
theorem dX2_spansWith_51 : decode cX2_spansWith 51 = .ok (.ifCond .ne 7, 3) := by decide +kernel
theorem dX2_spansWith_54 : decode cX2_spansWith 54 = .ok (.iconst 1, 1) := by decide +kernel
theorem dX2_spansWith_55 : decode cX2_spansWith 55 = .ok (.goto 4, 3) := by decide +kernel
theorem dX2_spansWith_58 : decode cX2_spansWith 58 = .ok (.iconst 0, 1) := by decide +kernel
theorem dX2_spansWith_59 : decode cX2_spansWith 59 = .ok (.iadd, 1) := by decide +kernel
theorem dX2_spansWith_60 : decode cX2_spansWith 60 = .ok (.istore 5, 2) := by decide +kernel
theorem dX2_spansWith_62 : decode cX2_spansWith 62 = .ok (.iload 8, 2) := by decide +kernel
theorem dX2_spansWith_64 : decode cX2_spansWith 64 = .ok (.istore 6, 2) := by decide +kernel
theorem dX2_spansWith_66 : decode cX2_spansWith 66 = .ok (.iinc 7 1, 3) := by decide +kernel
theorem dX2_spansWith_69 : decode cX2_spansWith 69 = .ok (.goto (-60), 3) := by decide +kernel
theorem dX2_spansWith_72 : decode cX2_spansWith 72 = .ok (.iload 5, 2) := by decide +kernel
theorem dX2_spansWith_74 : decode cX2_spansWith 74 = .ok (.ireturn, 1) := by decide +kernel
set_option maxRecDepth 20000 in
theorem ggX2_many_X2_has : GoodIn wsX2_many wsX2_has := goodIn_r _ [6, 7, 8, 9, 10, 11, 12, 13] (by decide +kernel) (by decide +kernel)
set_option maxRecDepth 20000 in
theorem gX2_many_X2_has : GoodIn wsX2_many (wsV RX2 34 RX2 yX2_has wsX2_has) := goodIn_app (goodIn_of _ (by decide +kernel)) ggX2_many_X2_has
theorem dX2_many_0 : decode cX2_many 0 = .ok (.iconst 0, 1) := by decide +kernel
theorem dX2_many_1 : decode cX2_many 1 = .ok (.istore_n 2, 1) := by decide +kernel
theorem dX2_many_2 : decode cX2_many 2 = .ok (.iconst 1, 1) := by decide +kernel
theorem dX2_many_3 : decode cX2_many 3 = .ok (.istore_n 3, 1) := by decide +kernel
theorem dX2_many_4 : decode cX2_many 4 = .ok (.iload_n 3, 1) := by decide +kernel
theorem dX2_many_5 : decode cX2_many 5 = .ok (.aload_n 0, 1) := by decide +kernel
theorem dX2_many_6 : decode cX2_many 6 = .ok (.getfield 9, 3) := by decide +kernel
theorem dX2_many_9 : decode cX2_many 9 = .ok (.if_icmp .gt 26, 3) := by decide +kernel
theorem dX2_many_12 : decode cX2_many 12 = .ok (.iload_n 2, 1) := by decide +kernel
theorem dX2_many_13 : decode cX2_many 13 = .ok (.aload_n 0, 1) := by decide +kernel
theorem dX2_many_14 : decode cX2_many 14 = .ok (.iload_n 1, 1) := by decide +kernel
theorem dX2_many_15 : decode cX2_many 15 = .ok (.iload_n 3, 1) := by decide +kernel
theorem dX2_many_16 : decode cX2_many 16 = .ok (.invokevirtual 34, 3) := by decide +kernel
theorem dX2_many_19 : decode cX2_many 19 = .ok (.ifCond .eq 7, 3) := by decide +kernel
theorem dX2_many_22 : decode cX2_many 22 = .ok (.iconst 1, 1) := by decide +kernel
theorem dX2_many_23 : decode cX2_many 23 = .ok (.goto 4, 3) := by decide +kernel
theorem dX2_many_26 : decode cX2_many 26 = .ok (.iconst 0, 1) := by decide +kernel
theorem dX2_many_27 : decode cX2_many 27 = .ok (.iadd, 1) := by decide +kernel
theorem dX2_many_28 : decode cX2_many 28 = .ok (.istore_n 2, 1) := by decide +kernel
theorem dX2_many_29 : decode cX2_many 29 = .ok (.iinc 3 1, 3) := by decide +kernel
theorem dX2_many_32 : decode cX2_many 32 = .ok (.goto (-28), 3) := by decide +kernel
theorem dX2_many_35 : decode cX2_many 35 = .ok (.iload_n 2, 1) := by decide +kernel
theorem dX2_many_36 : decode cX2_many 36 = .ok (.ireturn, 1) := by decide +kernel
set_option maxRecDepth 20000 in
theorem ggX2_begins_X2_has : GoodIn wsX2_begins wsX2_has := goodIn_r _ [5, 6, 7, 8, 9, 10, 11, 12] (by decide +kernel) (by decide +kernel)
set_option maxRecDepth 20000 in
theorem gX2_begins_X2_has : GoodIn wsX2_begins (wsV RX2 34 RX2 yX2_has wsX2_has) := goodIn_app (goodIn_of _ (by decide +kernel)) ggX2_begins_X2_has
theorem dX2_begins_0 : decode cX2_begins 0 = .ok (.iconst 0, 1) := by decide +kernel
theorem dX2_begins_1 : decode cX2_begins 1 = .ok (.istore_n 3, 1) := by decide +kernel
theorem dX2_begins_2 : decode cX2_begins 2 = .ok (.iconst 0, 1) := by decide +kernel
theorem dX2_begins_3 : decode cX2_begins 3 = .ok (.istore 4, 2) := by decide +kernel
theorem dX2_begins_5 : decode cX2_begins 5 = .ok (.iload 4, 2) := by decide +kernel
theorem dX2_begins_7 : decode cX2_begins 7 = .ok (.iload_n 2, 1) := by decide +kernel
theorem dX2_begins_8 : decode cX2_begins 8 = .ok (.if_icmp .gt 39, 3) := by decide +kernel
theorem dX2_begins_11 : decode cX2_begins 11 = .ok (.aload_n 0, 1) := by decide +kernel
theorem dX2_begins_12 : decode cX2_begins 12 = .ok (.iload_n 1, 1) := by decide +kernel
theorem dX2_begins_13 : decode cX2_begins 13 = .ok (.iload_n 3, 1) := by decide +kernel
theorem dX2_begins_14 : decode cX2_begins 14 = .ok (.invokevirtual 34, 3) := by decide +kernel
theorem dX2_begins_17 : decode cX2_begins 17 = .ok (.ifCond .eq 9, 3) := by decide +kernel
theorem dX2_begins_20 : decode cX2_begins 20 = .ok (.iinc 3 1, 3) := by decide +kernel
theorem dX2_begins_23 : decode cX2_begins 23 = .ok (.goto (-12), 3) := by decide +kernel
theorem dX2_begins_26 : decode cX2_begins 26 = .ok (.aload_n 0, 1) := by decide +kernel
theorem dX2_begins_27 : decode cX2_begins 27 = .ok (.iload_n 1, 1) := by decide +kernel
theorem dX2_begins_28 : decode cX2_begins 28 = .ok (.iload_n 3, 1) := by decide +kernel
theorem dX2_begins_29 : decode cX2_begins 29 = .ok (.invokevirtual 34, 3) := by decide +kernel
theorem dX2_begins_32 : decode cX2_begins 32 = .ok (.ifCond .ne 9, 3) := by decide +kernel
theorem dX2_begins_35 : decode cX2_begins 35 = .ok (.iinc 3 1, 3) := by decide +kernel
theorem dX2_begins_38 : decode cX2_begins 38 = .ok (.goto (-12), 3) := by decide +kernel
theorem dX2_begins_41 : decode cX2_begins 41 = .ok (.iinc 4 1, 3) := by decide +kernel
theorem dX2_begins_44 : decode cX2_begins 44 = .ok (.goto (-39), 3) := by decide +kernel
theorem dX2_begins_47 : decode cX2_begins 47 = .ok (.iload_n 3, 1) := by decide +kernel
theorem dX2_begins_48 : decode cX2_begins 48 = .ok (.ireturn, 1) := by decide +kernel
set_option maxRecDepth 20000 in
theorem ggX2_ends_X2_begins : GoodIn wsX2_ends wsX2_begins := goodIn_r _ [5, 6, 7, 8, 4, 9, 10, 11, 12, 13, 14, 15, 16] (by decide +kernel) (by decide +kernel)
set_option maxRecDepth 20000 in
theorem gX2_ends_X2_begins : GoodIn wsX2_ends (wsV RX2 38 RX2 yX2_begins wsX2_begins) := goodIn_app (goodIn_of _ (by decide +kernel)) ggX2_ends_X2_begins
set_option maxRecDepth 20000 in
theorem ggX2_ends_X2_has : GoodIn wsX2_ends wsX2_has := goodIn_r _ [9, 10, 11, 12, 13, 14, 15, 16] (by decide +kernel) (by decide +kernel)
set_option maxRecDepth 20000 in
theorem gX2_ends_X2_has : GoodIn wsX2_ends (wsV RX2 34 RX2 yX2_has wsX2_has) := goodIn_app (goodIn_of _ (by decide +kernel)) ggX2_ends_X2_has
theorem dX2_ends_0 : decode cX2_ends 0 = .ok (.aload_n 0, 1) := by decide +kernel
theorem dX2_ends_1 : decode cX2_ends 1 = .ok (.iload_n 1, 1) := by decide +kernel
theorem dX2_ends_2 : decode cX2_ends 2 = .ok (.iload_n 2, 1) := by decide +kernel
theorem dX2_ends_3 : decode cX2_ends 3 = .ok (.invokevirtual 38, 3) := by decide +kernel
theorem dX2_ends_6 : decode cX2_ends 6 = .ok (.istore_n 3, 1) := by decide +kernel
theorem dX2_ends_7 : decode cX2_ends 7 = .ok (.aload_n 0, 1) := by decide +kernel
theorem dX2_ends_8 : decode cX2_ends 8 = .ok (.iload_n 1, 1) := by decide +kernel
theorem dX2_ends_9 : decode cX2_ends 9 = .ok (.iload_n 3, 1) := by decide +kernel
theorem dX2_ends_10 : decode cX2_ends 10 = .ok (.iconst 1, 1) := by decide +kernel
theorem dX2_ends_11 : decode cX2_ends 11 = .ok (.iadd, 1) := by decide +kernel
theorem dX2_ends_12 : decode cX2_ends 12 = .ok (.invokevirtual 34, 3) := by decide +kernel
theorem dX2_ends_15 : decode cX2_ends 15 = .ok (.ifCond .eq 9, 3) := by decide +kernel
theorem dX2_ends_18 : decode cX2_ends 18 = .ok (.iinc 3 1, 3) := by decide +kernel
theorem dX2_ends_21 : decode cX2_ends 21 = .ok (.goto (-14), 3) := by decide +kernel
theorem dX2_ends_24 : decode cX2_ends 24 = .ok (.iload_n 3, 1) := by decide +kernel
theorem dX2_ends_25 : decode cX2_ends 25 = .ok (.ireturn, 1) := by decide +kernel
set_option maxRecDepth 20000 in
theorem ggX2_common_X2_has : GoodIn wsX2_common wsX2_has := goodIn_r _ [6, 7, 8, 9, 10, 11, 12, 13] (by decide +kernel) (by decide +kernel)
set_option maxRecDepth 20000 in
theorem gX2_common_X2_has : GoodIn wsX2_common (wsV RX2 34 RX2 yX2_has wsX2_has) := goodIn_app (goodIn_of _ (by decide +kernel)) ggX2_common_X2_has
theorem dX2_common_0 : decode cX2_common 0 = .ok (.iconst 0, 1) := by decide +kernel
theorem dX2_common_1 : decode cX2_common 1 = .ok (.istore_n 3, 1) := by decide +kernel
theorem dX2_common_2 : decode cX2_common 2 = .ok (.iconst 1, 1) := by decide +kernel
theorem dX2_common_3 : decode cX2_common 3 = .ok (.istore 4, 2) := by decide +kernel
theorem dX2_common_5 : decode cX2_common 5 = .ok (.iload 4, 2) := by decide +kernel
theorem dX2_common_7 : decode cX2_common 7 = .ok (.aload_n 0, 1) := by decide +kernel
theorem dX2_common_8 : decode cX2_common 8 = .ok (.getfield 9, 3) := by decide +kernel
theorem dX2_common_11 : decode cX2_common 11 = .ok (.if_icmp .gt 37, 3) := by decide +kernel
theorem dX2_common_14 : decode cX2_common 14 = .ok (.iload_n 3, 1) := by decide +kernel
theorem dX2_common_15 : decode cX2_common 15 = .ok (.aload_n 0, 1) := by decide +kernel
theorem dX2_common_16 : decode cX2_common 16 = .ok (.iload_n 1, 1) := by decide +kernel
theorem dX2_common_17 : decode cX2_common 17 = .ok (.iload 4, 2) := by decide +kernel
theorem dX2_common_19 : decode cX2_common 19 = .ok (.invokevirtual 34, 3) := by decide +kernel
theorem dX2_common_22 : decode cX2_common 22 = .ok (.ifCond .eq 17, 3) := by decide +kernel
theorem dX2_common_25 : decode cX2_common 25 = .ok (.aload_n 0, 1) := by decide +kernel
theorem dX2_common_26 : decode cX2_common 26 = .ok (.iload_n 2, 1) := by decide +kernel
theorem dX2_common_27 : decode cX2_common 27 = .ok (.iload 4, 2) := by decide +kernel
theorem dX2_common_29 : decode cX2_common 29 = .ok (.invokevirtual 34, 3) := by decide +kernel
theorem dX2_common_32 : decode cX2_common 32 = .ok (.ifCond .eq 7, 3) := by decide +kernel
theorem dX2_common_35 : decode cX2_common 35 = .ok (.iconst 1, 1) := by decide +kernel
theorem dX2_common_36 : decode cX2_common 36 = .ok (.goto 4, 3) := by decide +kernel
theorem dX2_common_39 : decode cX2_common 39 = .ok (.iconst 0, 1) := by decide +kernel
theorem dX2_common_40 : decode cX2_common 40 = .ok (.iadd, 1) := by decide +kernel
theorem dX2_common_41 : decode cX2_common 41 = .ok (.istore_n 3, 1) := by decide +kernel
theorem dX2_common_42 : decode cX2_common 42 = .ok (.iinc 4 1, 3) := by decide +kernel
theorem dX2_common_45 : decode cX2_common 45 = .ok (.goto (-40), 3) := by decide +kernel
theorem dX2_common_48 : decode cX2_common 48 = .ok (.iload_n 3, 1) := by decide +kernel
theorem dX2_common_49 : decode cX2_common 49 = .ok (.ireturn, 1) := by decide +kernel
set_option maxRecDepth 20000 in
theorem ggX2_near_X2_common : GoodIn wsX2_near wsX2_common := goodIn_r _ [6, 7, 8, 9, 10, 5, 11, 12, 13, 14, 15, 16, 17, 18] (by decide +kernel) (by decide +kernel)
set_option maxRecDepth 20000 in
theorem gX2_near_X2_common : GoodIn wsX2_near (wsV RX2 42 RX2 yX2_common wsX2_common) := goodIn_app (goodIn_of _ (by decide +kernel)) ggX2_near_X2_common
theorem dX2_near_0 : decode cX2_near 0 = .ok (.iconst (-1), 1) := by decide +kernel
theorem dX2_near_1 : decode cX2_near 1 = .ok (.istore_n 2, 1) := by decide +kernel
theorem dX2_near_2 : decode cX2_near 2 = .ok (.iconst 0, 1) := by decide +kernel
theorem dX2_near_3 : decode cX2_near 3 = .ok (.istore_n 3, 1) := by decide +kernel
theorem dX2_near_4 : decode cX2_near 4 = .ok (.iconst 0, 1) := by decide +kernel
theorem dX2_near_5 : decode cX2_near 5 = .ok (.istore 4, 2) := by decide +kernel
theorem dX2_near_7 : decode cX2_near 7 = .ok (.iload 4, 2) := by decide +kernel
theorem dX2_near_9 : decode cX2_near 9 = .ok (.aload_n 0, 1) := by decide +kernel
theorem dX2_near_10 : decode cX2_near 10 = .ok (.getfield 27, 3) := by decide +kernel
theorem dX2_near_13 : decode cX2_near 13 = .ok (.if_icmp .ge 43, 3) := by decide +kernel
theorem dX2_near_16 : decode cX2_near 16 = .ok (.iload 4, 2) := by decide +kernel
theorem dX2_near_18 : decode cX2_near 18 = .ok (.iload_n 1, 1) := by decide +kernel
theorem dX2_near_19 : decode cX2_near 19 = .ok (.if_icmp .ne 7, 3) := by decide +kernel
theorem dX2_near_22 : decode cX2_near 22 = .ok (.iconst 0, 1) := by decide +kernel
theorem dX2_near_23 : decode cX2_near 23 = .ok (.goto 10, 3) := by decide +kernel
theorem dX2_near_26 : decode cX2_near 26 = .ok (.aload_n 0, 1) := by decide +kernel
theorem dX2_near_27 : decode cX2_near 27 = .ok (.iload_n 1, 1) := by decide +kernel
theorem dX2_near_28 : decode cX2_near 28 = .ok (.iload 4, 2) := by decide +kernel
theorem dX2_near_30 : decode cX2_near 30 = .ok (.invokevirtual 42, 3) := by decide +kernel
theorem dX2_near_33 : decode cX2_near 33 = .ok (.istore 5, 2) := by decide +kernel
theorem dX2_near_35 : decode cX2_near 35 = .ok (.iload 5, 2) := by decide +kernel
theorem dX2_near_37 : decode cX2_near 37 = .ok (.iload_n 3, 1) := by decide +kernel
theorem dX2_near_38 : decode cX2_near 38 = .ok (.if_icmp .gt 6, 3) := by decide +kernel
theorem dX2_near_41 : decode cX2_near 41 = .ok (.goto 9, 3) := by decide +kernel
theorem dX2_near_44 : decode cX2_near 44 = .ok (.iload 4, 2) := by decide +kernel
theorem dX2_near_46 : decode cX2_near 46 = .ok (.istore_n 2, 1) := by decide +kernel
theorem dX2_near_47 : decode cX2_near 47 = .ok (.iload 5, 2) := by decide +kernel
theorem dX2_near_49 : decode cX2_near 49 = .ok (.istore_n 3, 1) := by decide +kernel
theorem dX2_near_50 : decode cX2_near 50 = .ok (.iinc 4 1, 3) := by decide +kernel
theorem dX2_near_53 : decode cX2_near 53 = .ok (.goto (-46), 3) := by decide +kernel
theorem dX2_near_56 : decode cX2_near 56 = .ok (.iload_n 2, 1) := by decide +kernel
theorem dX2_near_57 : decode cX2_near 57 = .ok (.ireturn, 1) := by decide +kernel
set_option maxRecDepth 20000 in
theorem ggX2_onPage_X2_has : GoodIn wsX2_onPage wsX2_has := goodIn_r _ [6, 7, 8, 9, 10, 11, 12, 13] (by decide +kernel) (by decide +kernel)
set_option maxRecDepth 20000 in
theorem gX2_onPage_X2_has : GoodIn wsX2_onPage (wsV RX2 34 RX2 yX2_has wsX2_has) := goodIn_app (goodIn_of _ (by decide +kernel)) ggX2_onPage_X2_has
theorem dX2_onPage_0 : decode cX2_onPage 0 = .ok (.iconst 0, 1) := by decide +kernel
theorem dX2_onPage_1 : decode cX2_onPage 1 = .ok (.istore_n 2, 1) := by decide +kernel
theorem dX2_onPage_2 : decode cX2_onPage 2 = .ok (.iconst 0, 1) := by decide +kernel
theorem dX2_onPage_3 : decode cX2_onPage 3 = .ok (.istore_n 3, 1) := by decide +kernel
theorem dX2_onPage_4 : decode cX2_onPage 4 = .ok (.iload_n 3, 1) := by decide +kernel
theorem dX2_onPage_5 : decode cX2_onPage 5 = .ok (.aload_n 0, 1) := by decide +kernel
theorem dX2_onPage_6 : decode cX2_onPage 6 = .ok (.getfield 27, 3) := by decide +kernel
theorem dX2_onPage_9 : decode cX2_onPage 9 = .ok (.if_icmp .ge 26, 3) := by decide +kernel
theorem dX2_onPage_12 : decode cX2_onPage 12 = .ok (.iload_n 2, 1) := by decide +kernel
theorem dX2_onPage_13 : decode cX2_onPage 13 = .ok (.aload_n 0, 1) := by decide +kernel
theorem dX2_onPage_14 : decode cX2_onPage 14 = .ok (.iload_n 3, 1) := by decide +kernel
theorem dX2_onPage_15 : decode cX2_onPage 15 = .ok (.iload_n 1, 1) := by decide +kernel
theorem dX2_onPage_16 : decode cX2_onPage 16 = .ok (.invokevirtual 34, 3) := by decide +kernel
theorem dX2_onPage_19 : decode cX2_onPage 19 = .ok (.ifCond .eq 7, 3) := by decide +kernel
theorem dX2_onPage_22 : decode cX2_onPage 22 = .ok (.iconst 1, 1) := by decide +kernel
theorem dX2_onPage_23 : decode cX2_onPage 23 = .ok (.goto 4, 3) := by decide +kernel
theorem dX2_onPage_26 : decode cX2_onPage 26 = .ok (.iconst 0, 1) := by decide +kernel
theorem dX2_onPage_27 : decode cX2_onPage 27 = .ok (.iadd, 1) := by decide +kernel
theorem dX2_onPage_28 : decode cX2_onPage 28 = .ok (.istore_n 2, 1) := by decide +kernel
theorem dX2_onPage_29 : decode cX2_onPage 29 = .ok (.iinc 3 1, 3) := by decide +kernel
theorem dX2_onPage_32 : decode cX2_onPage 32 = .ok (.goto (-28), 3) := by decide +kernel
theorem dX2_onPage_35 : decode cX2_onPage 35 = .ok (.iload_n 2, 1) := by decide +kernel
theorem dX2_onPage_36 : decode cX2_onPage 36 = .ok (.ireturn, 1) := by decide +kernel
set_option maxRecDepth 20000 in
theorem ggX2_bare_X2_onPage : GoodIn wsX2_bare wsX2_onPage := goodIn_r _ [6, 7, 8, 9, 10, 5, 11, 12, 13, 14, 15, 16, 17, 18] (by decide +kernel) (by decide +kernel)
set_option maxRecDepth 20000 in
theorem gX2_bare_X2_onPage : GoodIn wsX2_bare (wsV RX2 45 RX2 yX2_onPage wsX2_onPage) := goodIn_app (goodIn_of _ (by decide +kernel)) ggX2_bare_X2_onPage
theorem dX2_bare_0 : decode cX2_bare 0 = .ok (.iconst 0, 1) := by decide +kernel
theorem dX2_bare_1 : decode cX2_bare 1 = .ok (.istore_n 1, 1) := by decide +kernel
theorem dX2_bare_2 : decode cX2_bare 2 = .ok (.iconst 1, 1) := by decide +kernel
theorem dX2_bare_3 : decode cX2_bare 3 = .ok (.istore_n 2, 1) := by decide +kernel
theorem dX2_bare_4 : decode cX2_bare 4 = .ok (.iload_n 2, 1) := by decide +kernel
theorem dX2_bare_5 : decode cX2_bare 5 = .ok (.aload_n 0, 1) := by decide +kernel
theorem dX2_bare_6 : decode cX2_bare 6 = .ok (.getfield 9, 3) := by decide +kernel
theorem dX2_bare_9 : decode cX2_bare 9 = .ok (.if_icmp .gt 25, 3) := by decide +kernel
theorem dX2_bare_12 : decode cX2_bare 12 = .ok (.iload_n 1, 1) := by decide +kernel
theorem dX2_bare_13 : decode cX2_bare 13 = .ok (.aload_n 0, 1) := by decide +kernel
theorem dX2_bare_14 : decode cX2_bare 14 = .ok (.iload_n 2, 1) := by decide +kernel
theorem dX2_bare_15 : decode cX2_bare 15 = .ok (.invokevirtual 45, 3) := by decide +kernel
theorem dX2_bare_18 : decode cX2_bare 18 = .ok (.ifCond .ne 7, 3) := by decide +kernel
theorem dX2_bare_21 : decode cX2_bare 21 = .ok (.iconst 1, 1) := by decide +kernel
theorem dX2_bare_22 : decode cX2_bare 22 = .ok (.goto 4, 3) := by decide +kernel
theorem dX2_bare_25 : decode cX2_bare 25 = .ok (.iconst 0, 1) := by decide +kernel
theorem dX2_bare_26 : decode cX2_bare 26 = .ok (.iadd, 1) := by decide +kernel
theorem dX2_bare_27 : decode cX2_bare 27 = .ok (.istore_n 1, 1) := by decide +kernel
theorem dX2_bare_28 : decode cX2_bare 28 = .ok (.iinc 2 1, 3) := by decide +kernel
theorem dX2_bare_31 : decode cX2_bare 31 = .ok (.goto (-27), 3) := by decide +kernel
theorem dX2_bare_34 : decode cX2_bare 34 = .ok (.iload_n 1, 1) := by decide +kernel
theorem dX2_bare_35 : decode cX2_bare 35 = .ok (.ireturn, 1) := by decide +kernel
set_option maxRecDepth 20000 in
theorem ggX2_fullest_X2_onPage : GoodIn wsX2_fullest wsX2_onPage := goodIn_r _ [6, 7, 8, 9, 10, 5, 11, 12, 13, 14, 15, 16, 17, 18] (by decide +kernel) (by decide +kernel)
set_option maxRecDepth 20000 in
theorem gX2_fullest_X2_onPage : GoodIn wsX2_fullest (wsV RX2 45 RX2 yX2_onPage wsX2_onPage) := goodIn_app (goodIn_of _ (by decide +kernel)) ggX2_fullest_X2_onPage
theorem dX2_fullest_0 : decode cX2_fullest 0 = .ok (.iconst 1, 1) := by decide +kernel
theorem dX2_fullest_1 : decode cX2_fullest 1 = .ok (.istore_n 1, 1) := by decide +kernel
theorem dX2_fullest_2 : decode cX2_fullest 2 = .ok (.iconst 2, 1) := by decide +kernel
theorem dX2_fullest_3 : decode cX2_fullest 3 = .ok (.istore_n 2, 1) := by decide +kernel
theorem dX2_fullest_4 : decode cX2_fullest 4 = .ok (.iload_n 2, 1) := by decide +kernel
theorem dX2_fullest_5 : decode cX2_fullest 5 = .ok (.aload_n 0, 1) := by decide +kernel
theorem dX2_fullest_6 : decode cX2_fullest 6 = .ok (.getfield 9, 3) := by decide +kernel
theorem dX2_fullest_9 : decode cX2_fullest 9 = .ok (.if_icmp .gt 24, 3) := by decide +kernel
theorem dX2_fullest_12 : decode cX2_fullest 12 = .ok (.aload_n 0, 1) := by decide +kernel
theorem dX2_fullest_13 : decode cX2_fullest 13 = .ok (.iload_n 2, 1) := by decide +kernel
theorem dX2_fullest_14 : decode cX2_fullest 14 = .ok (.invokevirtual 45, 3) := by decide +kernel
theorem dX2_fullest_17 : decode cX2_fullest 17 = .ok (.aload_n 0, 1) := by decide +kernel
theorem dX2_fullest_18 : decode cX2_fullest 18 = .ok (.iload_n 1, 1) := by decide +kernel
theorem dX2_fullest_19 : decode cX2_fullest 19 = .ok (.invokevirtual 45, 3) := by decide +kernel
theorem dX2_fullest_22 : decode cX2_fullest 22 = .ok (.if_icmp .le 5, 3) := by decide +kernel
theorem dX2_fullest_25 : decode cX2_fullest 25 = .ok (.iload_n 2, 1) := by decide +kernel
theorem dX2_fullest_26 : decode cX2_fullest 26 = .ok (.istore_n 1, 1) := by decide +kernel
theorem dX2_fullest_27 : decode cX2_fullest 27 = .ok (.iinc 2 1, 3) := by decide +kernel
theorem dX2_fullest_30 : decode cX2_fullest 30 = .ok (.goto (-26), 3) := by decide +kernel
theorem dX2_fullest_33 : decode cX2_fullest 33 = .ok (.iload_n 1, 1) := by decide +kernel
theorem dX2_fullest_34 : decode cX2_fullest 34 = .ok (.ireturn, 1) := by decide +kernel
theorem dX2_end_0 : decode cX2_end 0 = .ok (.iload_n 1, 1) := by decide +kernel
theorem dX2_end_1 : decode cX2_end 1 = .ok (.istore_n 2, 1) := by decide +kernel
theorem dX2_end_2 : decode cX2_end 2 = .ok (.iconst 0, 1) := by decide +kernel
theorem dX2_end_3 : decode cX2_end 3 = .ok (.istore_n 3, 1) := by decide +kernel
theorem dX2_end_4 : decode cX2_end 4 = .ok (.iload_n 3, 1) := by decide +kernel
theorem dX2_end_5 : decode cX2_end 5 = .ok (.aload_n 0, 1) := by decide +kernel
theorem dX2_end_6 : decode cX2_end 6 = .ok (.getfield 27, 3) := by decide +kernel
theorem dX2_end_9 : decode cX2_end 9 = .ok (.if_icmp .gt 28, 3) := by decide +kernel
theorem dX2_end_12 : decode cX2_end 12 = .ok (.aload_n 0, 1) := by decide +kernel
theorem dX2_end_13 : decode cX2_end 13 = .ok (.getfield 17, 3) := by decide +kernel
theorem dX2_end_16 : decode cX2_end 16 = .ok (.iload_n 2, 1) := by decide +kernel
theorem dX2_end_17 : decode cX2_end 17 = .ok (.iaload, 1) := by decide +kernel
theorem dX2_end_18 : decode cX2_end 18 = .ok (.iconst (-1), 1) := by decide +kernel
theorem dX2_end_19 : decode cX2_end 19 = .ok (.if_icmp .ne 5, 3) := by decide +kernel
theorem dX2_end_22 : decode cX2_end 22 = .ok (.iload_n 2, 1) := by decide +kernel
theorem dX2_end_23 : decode cX2_end 23 = .ok (.ireturn, 1) := by decide +kernel
theorem dX2_end_24 : decode cX2_end 24 = .ok (.aload_n 0, 1) := by decide +kernel
theorem dX2_end_25 : decode cX2_end 25 = .ok (.getfield 17, 3) := by decide +kernel
theorem dX2_end_28 : decode cX2_end 28 = .ok (.iload_n 2, 1) := by decide +kernel
theorem dX2_end_29 : decode cX2_end 29 = .ok (.iaload, 1) := by decide +kernel
theorem dX2_end_30 : decode cX2_end 30 = .ok (.istore_n 2, 1) := by decide +kernel
theorem dX2_end_31 : decode cX2_end 31 = .ok (.iinc 3 1, 3) := by decide +kernel
theorem dX2_end_34 : decode cX2_end 34 = .ok (.goto (-30), 3) := by decide +kernel
theorem dX2_end_37 : decode cX2_end 37 = .ok (.iconst (-1), 1) := by decide +kernel
theorem dX2_end_38 : decode cX2_end 38 = .ok (.ireturn, 1) := by decide +kernel
set_option maxRecDepth 20000 in
theorem ggX2_vain_X2_end : GoodIn wsX2_vain wsX2_end := goodIn_r _ [7, 1, 2, 18, 19, 20, 21, 22, 23] (by decide +kernel) (by decide +kernel)
set_option maxRecDepth 20000 in
theorem gX2_vain_X2_end : GoodIn wsX2_vain (wsV RX2 49 RX2 yX2_end wsX2_end) := goodIn_app (goodIn_of _ (by decide +kernel)) ggX2_vain_X2_end
set_option maxRecDepth 20000 in
theorem ggX2_vain_X2_many : GoodIn wsX2_vain wsX2_many := goodIn_r _ [11, 12, 13, 14, 15, 6, 16, 17, 18, 19, 20, 21, 22, 23] (by decide +kernel) (by decide +kernel)
set_option maxRecDepth 20000 in
theorem gX2_vain_X2_many : GoodIn wsX2_vain (wsV RX2 52 RX2 yX2_many wsX2_many) := goodIn_app (goodIn_of _ (by decide +kernel)) ggX2_vain_X2_many
theorem dX2_vain_0 : decode cX2_vain 0 = .ok (.iconst 0, 1) := by decide +kernel
theorem dX2_vain_1 : decode cX2_vain 1 = .ok (.istore_n 1, 1) := by decide +kernel
theorem dX2_vain_2 : decode cX2_vain 2 = .ok (.iconst 0, 1) := by decide +kernel
theorem dX2_vain_3 : decode cX2_vain 3 = .ok (.istore_n 2, 1) := by decide +kernel
theorem dX2_vain_4 : decode cX2_vain 4 = .ok (.iload_n 2, 1) := by decide +kernel
theorem dX2_vain_5 : decode cX2_vain 5 = .ok (.aload_n 0, 1) := by decide +kernel
theorem dX2_vain_6 : decode cX2_vain 6 = .ok (.getfield 27, 3) := by decide +kernel
theorem dX2_vain_9 : decode cX2_vain 9 = .ok (.if_icmp .ge 48, 3) := by decide +kernel
theorem dX2_vain_12 : decode cX2_vain 12 = .ok (.iload_n 1, 1) := by decide +kernel
theorem dX2_vain_13 : decode cX2_vain 13 = .ok (.aload_n 0, 1) := by decide +kernel
theorem dX2_vain_14 : decode cX2_vain 14 = .ok (.getfield 17, 3) := by decide +kernel
theorem dX2_vain_17 : decode cX2_vain 17 = .ok (.iload_n 2, 1) := by decide +kernel
theorem dX2_vain_18 : decode cX2_vain 18 = .ok (.iaload, 1) := by decide +kernel
theorem dX2_vain_19 : decode cX2_vain 19 = .ok (.iconst (-1), 1) := by decide +kernel
theorem dX2_vain_20 : decode cX2_vain 20 = .ok (.if_icmp .eq 28, 3) := by decide +kernel
theorem dX2_vain_23 : decode cX2_vain 23 = .ok (.aload_n 0, 1) := by decide +kernel
theorem dX2_vain_24 : decode cX2_vain 24 = .ok (.iload_n 2, 1) := by decide +kernel
theorem dX2_vain_25 : decode cX2_vain 25 = .ok (.invokevirtual 49, 3) := by decide +kernel
theorem dX2_vain_28 : decode cX2_vain 28 = .ok (.iconst (-1), 1) := by decide +kernel
theorem dX2_vain_29 : decode cX2_vain 29 = .ok (.if_icmp .eq 15, 3) := by decide +kernel
theorem dX2_vain_32 : decode cX2_vain 32 = .ok (.aload_n 0, 1) := by decide +kernel
theorem dX2_vain_33 : decode cX2_vain 33 = .ok (.aload_n 0, 1) := by decide +kernel
theorem dX2_vain_34 : decode cX2_vain 34 = .ok (.iload_n 2, 1) := by decide +kernel
theorem dX2_vain_35 : decode cX2_vain 35 = .ok (.invokevirtual 49, 3) := by decide +kernel
theorem dX2_vain_38 : decode cX2_vain 38 = .ok (.invokevirtual 52, 3) := by decide +kernel
theorem dX2_vain_41 : decode cX2_vain 41 = .ok (.ifCond .ne 7, 3) := by decide +kernel
theorem dX2_vain_44 : decode cX2_vain 44 = .ok (.iconst 1, 1) := by decide +kernel
theorem dX2_vain_45 : decode cX2_vain 45 = .ok (.goto 4, 3) := by decide +kernel
theorem dX2_vain_48 : decode cX2_vain 48 = .ok (.iconst 0, 1) := by decide +kernel
theorem dX2_vain_49 : decode cX2_vain 49 = .ok (.iadd, 1) := by decide +kernel
theorem dX2_vain_50 : decode cX2_vain 50 = .ok (.istore_n 1, 1) := by decide +kernel
theorem dX2_vain_51 : decode cX2_vain 51 = .ok (.iinc 2 1, 3) := by decide +kernel
theorem dX2_vain_54 : decode cX2_vain 54 = .ok (.goto (-50), 3) := by decide +kernel
theorem dX2_vain_57 : decode cX2_vain 57 = .ok (.iload_n 1, 1) := by decide +kernel
theorem dX2_vain_58 : decode cX2_vain 58 = .ok (.ireturn, 1) := by decide +kernel
theorem dX2_step_0 : decode cX2_step 0 = .ok (.iconst 0, 1) := by decide +kernel
theorem dX2_step_1 : decode cX2_step 1 = .ok (.istore_n 2, 1) := by decide +kernel
theorem dX2_step_2 : decode cX2_step 2 = .ok (.iconst 0, 1) := by decide +kernel
theorem dX2_step_3 : decode cX2_step 3 = .ok (.istore_n 3, 1) := by decide +kernel
theorem dX2_step_4 : decode cX2_step 4 = .ok (.iload_n 3, 1) := by decide +kernel
theorem dX2_step_5 : decode cX2_step 5 = .ok (.aload_n 0, 1) := by decide +kernel
theorem dX2_step_6 : decode cX2_step 6 = .ok (.getfield 27, 3) := by decide +kernel
theorem dX2_step_9 : decode cX2_step 9 = .ok (.if_icmp .ge 50, 3) := by decide +kernel
theorem dX2_step_12 : decode cX2_step 12 = .ok (.iload_n 1, 1) := by decide +kernel
theorem dX2_step_13 : decode cX2_step 13 = .ok (.iload_n 3, 1) := by decide +kernel
theorem dX2_step_14 : decode cX2_step 14 = .ok (.ishr, 1) := by decide +kernel
theorem dX2_step_15 : decode cX2_step 15 = .ok (.iconst 1, 1) := by decide +kernel
theorem dX2_step_16 : decode cX2_step 16 = .ok (.iand, 1) := by decide +kernel
theorem dX2_step_17 : decode cX2_step 17 = .ok (.iconst 1, 1) := by decide +kernel
theorem dX2_step_18 : decode cX2_step 18 = .ok (.if_icmp .ne 35, 3) := by decide +kernel
theorem dX2_step_21 : decode cX2_step 21 = .ok (.iload_n 2, 1) := by decide +kernel
theorem dX2_step_22 : decode cX2_step 22 = .ok (.aload_n 0, 1) := by decide +kernel
theorem dX2_step_23 : decode cX2_step 23 = .ok (.getfield 21, 3) := by decide +kernel
theorem dX2_step_26 : decode cX2_step 26 = .ok (.iload_n 3, 1) := by decide +kernel
theorem dX2_step_27 : decode cX2_step 27 = .ok (.iaload, 1) := by decide +kernel
theorem dX2_step_28 : decode cX2_step 28 = .ok (.aload_n 0, 1) := by decide +kernel
theorem dX2_step_29 : decode cX2_step 29 = .ok (.getfield 17, 3) := by decide +kernel
theorem dX2_step_32 : decode cX2_step 32 = .ok (.iload_n 3, 1) := by decide +kernel
theorem dX2_step_33 : decode cX2_step 33 = .ok (.iaload, 1) := by decide +kernel
theorem dX2_step_34 : decode cX2_step 34 = .ok (.iconst (-1), 1) := by decide +kernel
theorem dX2_step_35 : decode cX2_step 35 = .ok (.if_icmp .ne 7, 3) := by decide +kernel
theorem dX2_step_38 : decode cX2_step 38 = .ok (.iconst 0, 1) := by decide +kernel
theorem dX2_step_39 : decode cX2_step 39 = .ok (.goto 11, 3) := by decide +kernel
theorem dX2_step_42 : decode cX2_step 42 = .ok (.iconst 1, 1) := by decide +kernel
theorem dX2_step_43 : decode cX2_step 43 = .ok (.aload_n 0, 1) := by decide +kernel
theorem dX2_step_44 : decode cX2_step 44 = .ok (.getfield 17, 3) := by decide +kernel
theorem dX2_step_47 : decode cX2_step 47 = .ok (.iload_n 3, 1) := by decide +kernel
theorem dX2_step_48 : decode cX2_step 48 = .ok (.iaload, 1) := by decide +kernel
theorem dX2_step_49 : decode cX2_step 49 = .ok (.ishl, 1) := by decide +kernel
theorem dX2_step_50 : decode cX2_step 50 = .ok (.ior, 1) := by decide +kernel
theorem dX2_step_51 : decode cX2_step 51 = .ok (.ior, 1) := by decide +kernel
theorem dX2_step_52 : decode cX2_step 52 = .ok (.istore_n 2, 1) := by decide +kernel
theorem dX2_step_53 : decode cX2_step 53 = .ok (.iinc 3 1, 3) := by decide +kernel
theorem dX2_step_56 : decode cX2_step 56 = .ok (.goto (-52), 3) := by decide +kernel
theorem dX2_step_59 : decode cX2_step 59 = .ok (.iload_n 2, 1) := by decide +kernel
theorem dX2_step_60 : decode cX2_step 60 = .ok (.ireturn, 1) := by decide +kernel
set_option maxRecDepth 20000 in
theorem ggX2_all_X2_step : GoodIn wsX2_all wsX2_step := goodIn_r _ [5, 6, 7, 8, 9, 10, 11, 12, 13, 14] (by decide +kernel) (by decide +kernel)
set_option maxRecDepth 20000 in
theorem gX2_all_X2_step : GoodIn wsX2_all (wsV RX2 55 RX2 yX2_step wsX2_step) := goodIn_app (goodIn_of _ (by decide +kernel)) ggX2_all_X2_step
theorem dX2_all_0 : decode cX2_all 0 = .ok (.iload_n 1, 1) := by decide +kernel
theorem dX2_all_1 : decode cX2_all 1 = .ok (.istore_n 2, 1) := by decide +kernel
theorem dX2_all_2 : decode cX2_all 2 = .ok (.aload_n 0, 1) := by decide +kernel
theorem dX2_all_3 : decode cX2_all 3 = .ok (.iload_n 2, 1) := by decide +kernel
theorem dX2_all_4 : decode cX2_all 4 = .ok (.invokevirtual 55, 3) := by decide +kernel
theorem dX2_all_7 : decode cX2_all 7 = .ok (.iload_n 2, 1) := by decide +kernel
theorem dX2_all_8 : decode cX2_all 8 = .ok (.iconst (-1), 1) := by decide +kernel
theorem dX2_all_9 : decode cX2_all 9 = .ok (.ixor, 1) := by decide +kernel
theorem dX2_all_10 : decode cX2_all 10 = .ok (.iand, 1) := by decide +kernel
theorem dX2_all_11 : decode cX2_all 11 = .ok (.ifCond .eq 14, 3) := by decide +kernel
theorem dX2_all_14 : decode cX2_all 14 = .ok (.iload_n 2, 1) := by decide +kernel
theorem dX2_all_15 : decode cX2_all 15 = .ok (.aload_n 0, 1) := by decide +kernel
theorem dX2_all_16 : decode cX2_all 16 = .ok (.iload_n 2, 1) := by decide +kernel
theorem dX2_all_17 : decode cX2_all 17 = .ok (.invokevirtual 55, 3) := by decide +kernel
theorem dX2_all_20 : decode cX2_all 20 = .ok (.ior, 1) := by decide +kernel
theorem dX2_all_21 : decode cX2_all 21 = .ok (.istore_n 2, 1) := by decide +kernel
theorem dX2_all_22 : decode cX2_all 22 = .ok (.goto (-20), 3) := by decide +kernel
theorem dX2_all_25 : decode cX2_all 25 = .ok (.iload_n 2, 1) := by decide +kernel
theorem dX2_all_26 : decode cX2_all 26 = .ok (.ireturn, 1) := by decide +kernel
set_option maxRecDepth 20000 in
theorem ggX2_far_X2_step : GoodIn wsX2_far wsX2_step := goodIn_r _ [5, 6, 7, 8, 9, 10, 11, 12, 13, 14] (by decide +kernel) (by decide +kernel)
set_option maxRecDepth 20000 in
theorem gX2_far_X2_step : GoodIn wsX2_far (wsV RX2 55 RX2 yX2_step wsX2_step) := goodIn_app (goodIn_of _ (by decide +kernel)) ggX2_far_X2_step
theorem dX2_far_0 : decode cX2_far 0 = .ok (.iconst 1, 1) := by decide +kernel
theorem dX2_far_1 : decode cX2_far 1 = .ok (.iload_n 1, 1) := by decide +kernel
theorem dX2_far_2 : decode cX2_far 2 = .ok (.ishl, 1) := by decide +kernel
theorem dX2_far_3 : decode cX2_far 3 = .ok (.istore_n 3, 1) := by decide +kernel
theorem dX2_far_4 : decode cX2_far 4 = .ok (.iconst 0, 1) := by decide +kernel
theorem dX2_far_5 : decode cX2_far 5 = .ok (.istore 4, 2) := by decide +kernel
theorem dX2_far_7 : decode cX2_far 7 = .ok (.iload_n 3, 1) := by decide +kernel
theorem dX2_far_8 : decode cX2_far 8 = .ok (.iload_n 2, 1) := by decide +kernel
theorem dX2_far_9 : decode cX2_far 9 = .ok (.ishr, 1) := by decide +kernel
theorem dX2_far_10 : decode cX2_far 10 = .ok (.iconst 1, 1) := by decide +kernel
theorem dX2_far_11 : decode cX2_far 11 = .ok (.iand, 1) := by decide +kernel
theorem dX2_far_12 : decode cX2_far 12 = .ok (.ifCond .ne 29, 3) := by decide +kernel
theorem dX2_far_15 : decode cX2_far 15 = .ok (.iload_n 3, 1) := by decide +kernel
theorem dX2_far_16 : decode cX2_far 16 = .ok (.aload_n 0, 1) := by decide +kernel
theorem dX2_far_17 : decode cX2_far 17 = .ok (.iload_n 3, 1) := by decide +kernel
theorem dX2_far_18 : decode cX2_far 18 = .ok (.invokevirtual 55, 3) := by decide +kernel
theorem dX2_far_21 : decode cX2_far 21 = .ok (.ior, 1) := by decide +kernel
theorem dX2_far_22 : decode cX2_far 22 = .ok (.istore 5, 2) := by decide +kernel
theorem dX2_far_24 : decode cX2_far 24 = .ok (.iload 5, 2) := by decide +kernel
theorem dX2_far_26 : decode cX2_far 26 = .ok (.iload_n 3, 1) := by decide +kernel
theorem dX2_far_27 : decode cX2_far 27 = .ok (.if_icmp .ne 5, 3) := by decide +kernel
theorem dX2_far_30 : decode cX2_far 30 = .ok (.iconst (-1), 1) := by decide +kernel
theorem dX2_far_31 : decode cX2_far 31 = .ok (.ireturn, 1) := by decide +kernel
theorem dX2_far_32 : decode cX2_far 32 = .ok (.iload 5, 2) := by decide +kernel
theorem dX2_far_34 : decode cX2_far 34 = .ok (.istore_n 3, 1) := by decide +kernel
theorem dX2_far_35 : decode cX2_far 35 = .ok (.iinc 4 1, 3) := by decide +kernel
theorem dX2_far_38 : decode cX2_far 38 = .ok (.goto (-31), 3) := by decide +kernel
theorem dX2_far_41 : decode cX2_far 41 = .ok (.iload 4, 2) := by decide +kernel
theorem dX2_far_43 : decode cX2_far 43 = .ok (.ireturn, 1) := by decide +kernel
set_option maxRecDepth 20000 in
theorem ggX2_rings_X2_step : GoodIn wsX2_rings wsX2_step := goodIn_r _ [5, 6, 7, 8, 13, 14, 15, 16, 17, 18] (by decide +kernel) (by decide +kernel)
set_option maxRecDepth 20000 in
theorem gX2_rings_X2_step : GoodIn wsX2_rings (wsV RX2 55 RX2 yX2_step wsX2_step) := goodIn_app (goodIn_of _ (by decide +kernel)) ggX2_rings_X2_step
set_option maxRecDepth 20000 in
theorem ggX2_rings_X2_all : GoodIn wsX2_rings wsX2_all := goodIn_r _ [12, 1, 2, 3, 4, 5, 6, 7, 8, 13, 14, 15, 16, 17, 18] (by decide +kernel) (by decide +kernel)
set_option maxRecDepth 20000 in
theorem gX2_rings_X2_all : GoodIn wsX2_rings (wsV RX2 58 RX2 yX2_all wsX2_all) := goodIn_app (goodIn_of _ (by decide +kernel)) ggX2_rings_X2_all
theorem dX2_rings_0 : decode cX2_rings 0 = .ok (.aload_n 0, 1) := by decide +kernel
theorem dX2_rings_1 : decode cX2_rings 1 = .ok (.aload_n 0, 1) := by decide +kernel
theorem dX2_rings_2 : decode cX2_rings 2 = .ok (.iconst 1, 1) := by decide +kernel
theorem dX2_rings_3 : decode cX2_rings 3 = .ok (.iload_n 1, 1) := by decide +kernel
theorem dX2_rings_4 : decode cX2_rings 4 = .ok (.ishl, 1) := by decide +kernel
theorem dX2_rings_5 : decode cX2_rings 5 = .ok (.invokevirtual 55, 3) := by decide +kernel
theorem dX2_rings_8 : decode cX2_rings 8 = .ok (.invokevirtual 58, 3) := by decide +kernel
theorem dX2_rings_11 : decode cX2_rings 11 = .ok (.iload_n 1, 1) := by decide +kernel
theorem dX2_rings_12 : decode cX2_rings 12 = .ok (.ishr, 1) := by decide +kernel
theorem dX2_rings_13 : decode cX2_rings 13 = .ok (.iconst 1, 1) := by decide +kernel
theorem dX2_rings_14 : decode cX2_rings 14 = .ok (.iand, 1) := by decide +kernel
theorem dX2_rings_15 : decode cX2_rings 15 = .ok (.iconst 1, 1) := by decide +kernel
theorem dX2_rings_16 : decode cX2_rings 16 = .ok (.if_icmp .ne 7, 3) := by decide +kernel
theorem dX2_rings_19 : decode cX2_rings 19 = .ok (.iconst 1, 1) := by decide +kernel
theorem dX2_rings_20 : decode cX2_rings 20 = .ok (.goto 4, 3) := by decide +kernel
theorem dX2_rings_23 : decode cX2_rings 23 = .ok (.iconst 0, 1) := by decide +kernel
theorem dX2_rings_24 : decode cX2_rings 24 = .ok (.ireturn, 1) := by decide +kernel
set_option maxRecDepth 20000 in
theorem ggX2_alone_X2_step : GoodIn wsX2_alone wsX2_step := goodIn_r _ [6, 1, 7, 8, 16, 17, 18, 19, 20, 21] (by decide +kernel) (by decide +kernel)
set_option maxRecDepth 20000 in
theorem gX2_alone_X2_step : GoodIn wsX2_alone (wsV RX2 55 RX2 yX2_step wsX2_step) := goodIn_app (goodIn_of _ (by decide +kernel)) ggX2_alone_X2_step
set_option maxRecDepth 20000 in
theorem ggX2_alone_J6_bitCount_0f7a4 : GoodIn wsX2_alone wsJ6_bitCount_0f7a4 := goodIn_r _ [12, 13, 14, 15] (by decide +kernel) (by decide +kernel)
set_option maxRecDepth 20000 in
theorem gX2_alone_J6_bitCount_0f7a4 : GoodIn wsX2_alone (va_wsS RX2 61 yJ6_bitCount_0f7a4 wsJ6_bitCount_0f7a4) := goodIn_app (goodIn_of _ (by decide +kernel)) ggX2_alone_J6_bitCount_0f7a4
theorem dX2_alone_0 : decode cX2_alone 0 = .ok (.iconst 0, 1) := by decide +kernel
theorem dX2_alone_1 : decode cX2_alone 1 = .ok (.istore_n 1, 1) := by decide +kernel
theorem dX2_alone_2 : decode cX2_alone 2 = .ok (.iconst 0, 1) := by decide +kernel
theorem dX2_alone_3 : decode cX2_alone 3 = .ok (.istore_n 2, 1) := by decide +kernel
theorem dX2_alone_4 : decode cX2_alone 4 = .ok (.iload_n 2, 1) := by decide +kernel
theorem dX2_alone_5 : decode cX2_alone 5 = .ok (.aload_n 0, 1) := by decide +kernel
theorem dX2_alone_6 : decode cX2_alone 6 = .ok (.getfield 27, 3) := by decide +kernel
theorem dX2_alone_9 : decode cX2_alone 9 = .ok (.if_icmp .ge 19, 3) := by decide +kernel
theorem dX2_alone_12 : decode cX2_alone 12 = .ok (.iload_n 1, 1) := by decide +kernel
theorem dX2_alone_13 : decode cX2_alone 13 = .ok (.aload_n 0, 1) := by decide +kernel
theorem dX2_alone_14 : decode cX2_alone 14 = .ok (.iconst 1, 1) := by decide +kernel
theorem dX2_alone_15 : decode cX2_alone 15 = .ok (.iload_n 2, 1) := by decide +kernel
theorem dX2_alone_16 : decode cX2_alone 16 = .ok (.ishl, 1) := by decide +kernel
theorem dX2_alone_17 : decode cX2_alone 17 = .ok (.invokevirtual 55, 3) := by decide +kernel
theorem dX2_alone_20 : decode cX2_alone 20 = .ok (.ior, 1) := by decide +kernel
theorem dX2_alone_21 : decode cX2_alone 21 = .ok (.istore_n 1, 1) := by decide +kernel
theorem dX2_alone_22 : decode cX2_alone 22 = .ok (.iinc 2 1, 3) := by decide +kernel
theorem dX2_alone_25 : decode cX2_alone 25 = .ok (.goto (-21), 3) := by decide +kernel
theorem dX2_alone_28 : decode cX2_alone 28 = .ok (.aload_n 0, 1) := by decide +kernel
theorem dX2_alone_29 : decode cX2_alone 29 = .ok (.getfield 27, 3) := by decide +kernel
theorem dX2_alone_32 : decode cX2_alone 32 = .ok (.iload_n 1, 1) := by decide +kernel
theorem dX2_alone_33 : decode cX2_alone 33 = .ok (.invokestatic 61, 3) := by decide +kernel
theorem dX2_alone_36 : decode cX2_alone 36 = .ok (.isub, 1) := by decide +kernel
theorem dX2_alone_37 : decode cX2_alone 37 = .ok (.ireturn, 1) := by decide +kernel
end
section
set_option maxRecDepth 20000 in
theorem ggX2_addHeading_X2_no : GoodIn wsX2_addHeading wsX2_no := goodIn_r _ [8, 1, 9, 10, 11, 12, 13, 14] (by decide +kernel) (by decide +kernel)
set_option maxRecDepth 20000 in
theorem gX2_addHeading_X2_no : GoodIn wsX2_addHeading (wsV RX2 66 RX2 yX2_no wsX2_no) := goodIn_app (goodIn_of _ (by decide +kernel)) ggX2_addHeading_X2_no
theorem dX2_addHeading_0 : decode cX2_addHeading 0 = .ok (.aload_n 0, 1) := by decide +kernel
theorem dX2_addHeading_1 : decode cX2_addHeading 1 = .ok (.iconst 0, 1) := by decide +kernel
theorem dX2_addHeading_2 : decode cX2_addHeading 2 = .ok (.putfield 24, 3) := by decide +kernel
theorem dX2_addHeading_5 : decode cX2_addHeading 5 = .ok (.aload_n 0, 1) := by decide +kernel
theorem dX2_addHeading_6 : decode cX2_addHeading 6 = .ok (.getfield 27, 3) := by decide +kernel
theorem dX2_addHeading_9 : decode cX2_addHeading 9 = .ok (.bipush 24, 2) := by decide +kernel
theorem dX2_addHeading_11 : decode cX2_addHeading 11 = .ok (.if_icmp .ne 9, 3) := by decide +kernel
theorem dX2_addHeading_14 : decode cX2_addHeading 14 = .ok (.aload_n 0, 1) := by decide +kernel
theorem dX2_addHeading_15 : decode cX2_addHeading 15 = .ok (.iconst 1, 1) := by decide +kernel
theorem dX2_addHeading_16 : decode cX2_addHeading 16 = .ok (.invokevirtual 66, 3) := by decide +kernel
theorem dX2_addHeading_19 : decode cX2_addHeading 19 = .ok (.ireturn, 1) := by decide +kernel
theorem dX2_addHeading_20 : decode cX2_addHeading 20 = .ok (.aload_n 0, 1) := by decide +kernel
theorem dX2_addHeading_21 : decode cX2_addHeading 21 = .ok (.getfield 17, 3) := by decide +kernel
theorem dX2_addHeading_24 : decode cX2_addHeading 24 = .ok (.aload_n 0, 1) := by decide +kernel
theorem dX2_addHeading_25 : decode cX2_addHeading 25 = .ok (.getfield 27, 3) := by decide +kernel
theorem dX2_addHeading_28 : decode cX2_addHeading 28 = .ok (.iconst (-1), 1) := by decide +kernel
theorem dX2_addHeading_29 : decode cX2_addHeading 29 = .ok (.iastore, 1) := by decide +kernel
theorem dX2_addHeading_30 : decode cX2_addHeading 30 = .ok (.aload_n 0, 1) := by decide +kernel
theorem dX2_addHeading_31 : decode cX2_addHeading 31 = .ok (.dup, 1) := by decide +kernel
theorem dX2_addHeading_32 : decode cX2_addHeading 32 = .ok (.getfield 27, 3) := by decide +kernel
theorem dX2_addHeading_35 : decode cX2_addHeading 35 = .ok (.iconst 1, 1) := by decide +kernel
theorem dX2_addHeading_36 : decode cX2_addHeading 36 = .ok (.iadd, 1) := by decide +kernel
theorem dX2_addHeading_37 : decode cX2_addHeading 37 = .ok (.putfield 27, 3) := by decide +kernel
theorem dX2_addHeading_40 : decode cX2_addHeading 40 = .ok (.aload_n 0, 1) := by decide +kernel
theorem dX2_addHeading_41 : decode cX2_addHeading 41 = .ok (.getfield 27, 3) := by decide +kernel
theorem dX2_addHeading_44 : decode cX2_addHeading 44 = .ok (.iconst 1, 1) := by decide +kernel
theorem dX2_addHeading_45 : decode cX2_addHeading 45 = .ok (.isub, 1) := by decide +kernel
theorem dX2_addHeading_46 : decode cX2_addHeading 46 = .ok (.ireturn, 1) := by decide +kernel
set_option maxRecDepth 20000 in
theorem ggX2_put_X2_let : GoodIn wsX2_put wsX2_let := goodIn_r _ [5, 6, 7, 8, 9, 10, 11, 12] (by decide +kernel) (by decide +kernel)
set_option maxRecDepth 20000 in
theorem gX2_put_X2_let : GoodIn wsX2_put (wsV RX2 69 RX2 yX2_let wsX2_let) := goodIn_app (goodIn_of _ (by decide +kernel)) ggX2_put_X2_let
theorem dX2_put_0 : decode cX2_put 0 = .ok (.iload_n 2, 1) := by decide +kernel
theorem dX2_put_1 : decode cX2_put 1 = .ok (.istore 5, 2) := by decide +kernel
theorem dX2_put_3 : decode cX2_put 3 = .ok (.iload 5, 2) := by decide +kernel
theorem dX2_put_5 : decode cX2_put 5 = .ok (.iload_n 3, 1) := by decide +kernel
theorem dX2_put_6 : decode cX2_put 6 = .ok (.if_icmp .gt 18, 3) := by decide +kernel
theorem dX2_put_9 : decode cX2_put 9 = .ok (.aload_n 0, 1) := by decide +kernel
theorem dX2_put_10 : decode cX2_put 10 = .ok (.iload_n 1, 1) := by decide +kernel
theorem dX2_put_11 : decode cX2_put 11 = .ok (.iload 5, 2) := by decide +kernel
theorem dX2_put_13 : decode cX2_put 13 = .ok (.iload 4, 2) := by decide +kernel
theorem dX2_put_15 : decode cX2_put 15 = .ok (.invokevirtual 69, 3) := by decide +kernel
theorem dX2_put_18 : decode cX2_put 18 = .ok (.iinc 5 1, 3) := by decide +kernel
theorem dX2_put_21 : decode cX2_put 21 = .ok (.goto (-18), 3) := by decide +kernel
theorem dX2_put_24 : decode cX2_put 24 = .ok (.return_, 1) := by decide +kernel
set_option maxRecDepth 20000 in
theorem ggX2_addPages_X2_isHeading : GoodIn wsX2_addPages wsX2_isHeading := goodIn_r _ [7, 8, 9, 10, 6, 11, 42, 43, 44, 45, 46, 47] (by decide +kernel) (by decide +kernel)
set_option maxRecDepth 20000 in
theorem gX2_addPages_X2_isHeading : GoodIn wsX2_addPages (wsV RX2 73 RX2 yX2_isHeading wsX2_isHeading) := goodIn_app (goodIn_of _ (by decide +kernel)) ggX2_addPages_X2_isHeading
set_option maxRecDepth 20000 in
theorem ggX2_addPages_X2_no : GoodIn wsX2_addPages wsX2_no := goodIn_r _ [15, 1, 42, 43, 44, 45, 46, 47] (by decide +kernel) (by decide +kernel)
set_option maxRecDepth 20000 in
theorem gX2_addPages_X2_no : GoodIn wsX2_addPages (wsV RX2 66 RX2 yX2_no wsX2_no) := goodIn_app (goodIn_of _ (by decide +kernel)) ggX2_addPages_X2_no
set_option maxRecDepth 20000 in
theorem ggX2_addPages_X2_arePages : GoodIn wsX2_addPages wsX2_arePages := goodIn_r _ [19, 20, 42, 43, 44, 45, 46, 47] (by decide +kernel) (by decide +kernel)
set_option maxRecDepth 20000 in
theorem gX2_addPages_X2_arePages : GoodIn wsX2_addPages (wsV RX2 77 RX2 yX2_arePages wsX2_arePages) := goodIn_app (goodIn_of _ (by decide +kernel)) ggX2_addPages_X2_arePages
set_option maxRecDepth 20000 in
theorem ggX2_addPages_X2_spansWith : GoodIn wsX2_addPages wsX2_spansWith := goodIn_r _ [24, 20, 9, 10, 6, 11, 25, 26, 27, 28, 29, 42, 43, 44, 45, 46, 47] (by decide +kernel) (by decide +kernel)
set_option maxRecDepth 20000 in
theorem gX2_addPages_X2_spansWith : GoodIn wsX2_addPages (wsV RX2 80 RX2 yX2_spansWith wsX2_spansWith) := goodIn_app (goodIn_of _ (by decide +kernel)) ggX2_addPages_X2_spansWith
set_option maxRecDepth 20000 in
theorem ggX2_addPages_X2_put : GoodIn wsX2_addPages wsX2_put := goodIn_r _ [33, 34, 35, 36, 6, 37, 29, 42, 43, 44, 45, 46, 47] (by decide +kernel) (by decide +kernel)
set_option maxRecDepth 20000 in
theorem gX2_addPages_X2_put : GoodIn wsX2_addPages (wsV RX2 84 RX2 yX2_put wsX2_put) := goodIn_app (goodIn_of _ (by decide +kernel)) ggX2_addPages_X2_put
set_option maxRecDepth 20000 in
theorem ggX2_addPages_X2_spans : GoodIn wsX2_addPages wsX2_spans := goodIn_r _ [41, 20, 25, 26, 27, 6, 28, 29, 42, 43, 44, 45, 46, 47] (by decide +kernel) (by decide +kernel)
set_option maxRecDepth 20000 in
theorem gX2_addPages_X2_spans : GoodIn wsX2_addPages (wsV RX2 88 RX2 yX2_spans wsX2_spans) := goodIn_app (goodIn_of _ (by decide +kernel)) ggX2_addPages_X2_spans
theorem dX2_addPages_0 : decode cX2_addPages 0 = .ok (.aload_n 0, 1) := by decide +kernel
theorem dX2_addPages_1 : decode cX2_addPages 1 = .ok (.iconst 0, 1) := by decide +kernel
theorem dX2_addPages_2 : decode cX2_addPages 2 = .ok (.putfield 24, 3) := by decide +kernel
theorem dX2_addPages_5 : decode cX2_addPages 5 = .ok (.aload_n 0, 1) := by decide +kernel
theorem dX2_addPages_6 : decode cX2_addPages 6 = .ok (.iload_n 1, 1) := by decide +kernel
theorem dX2_addPages_7 : decode cX2_addPages 7 = .ok (.invokevirtual 73, 3) := by decide +kernel
theorem dX2_addPages_10 : decode cX2_addPages 10 = .ok (.ifCond .ne 9, 3) := by decide +kernel
theorem dX2_addPages_13 : decode cX2_addPages 13 = .ok (.aload_n 0, 1) := by decide +kernel
theorem dX2_addPages_14 : decode cX2_addPages 14 = .ok (.iconst 1, 1) := by decide +kernel
theorem dX2_addPages_15 : decode cX2_addPages 15 = .ok (.invokevirtual 66, 3) := by decide +kernel
theorem dX2_addPages_18 : decode cX2_addPages 18 = .ok (.ireturn, 1) := by decide +kernel
theorem dX2_addPages_19 : decode cX2_addPages 19 = .ok (.aload_n 0, 1) := by decide +kernel
theorem dX2_addPages_20 : decode cX2_addPages 20 = .ok (.iload_n 2, 1) := by decide +kernel
theorem dX2_addPages_21 : decode cX2_addPages 21 = .ok (.iload_n 3, 1) := by decide +kernel
theorem dX2_addPages_22 : decode cX2_addPages 22 = .ok (.invokevirtual 77, 3) := by decide +kernel
theorem dX2_addPages_25 : decode cX2_addPages 25 = .ok (.ifCond .ne 9, 3) := by decide +kernel
theorem dX2_addPages_28 : decode cX2_addPages 28 = .ok (.aload_n 0, 1) := by decide +kernel
theorem dX2_addPages_29 : decode cX2_addPages 29 = .ok (.iconst 2, 1) := by decide +kernel
theorem dX2_addPages_30 : decode cX2_addPages 30 = .ok (.invokevirtual 66, 3) := by decide +kernel
theorem dX2_addPages_33 : decode cX2_addPages 33 = .ok (.ireturn, 1) := by decide +kernel
theorem dX2_addPages_34 : decode cX2_addPages 34 = .ok (.aload_n 0, 1) := by decide +kernel
theorem dX2_addPages_35 : decode cX2_addPages 35 = .ok (.getfield 17, 3) := by decide +kernel
theorem dX2_addPages_38 : decode cX2_addPages 38 = .ok (.iload_n 1, 1) := by decide +kernel
theorem dX2_addPages_39 : decode cX2_addPages 39 = .ok (.iaload, 1) := by decide +kernel
theorem dX2_addPages_40 : decode cX2_addPages 40 = .ok (.iconst (-1), 1) := by decide +kernel
theorem dX2_addPages_41 : decode cX2_addPages 41 = .ok (.if_icmp .ne 16, 3) := by decide +kernel
theorem dX2_addPages_44 : decode cX2_addPages 44 = .ok (.aload_n 0, 1) := by decide +kernel
theorem dX2_addPages_45 : decode cX2_addPages 45 = .ok (.iload_n 1, 1) := by decide +kernel
theorem dX2_addPages_46 : decode cX2_addPages 46 = .ok (.iload_n 2, 1) := by decide +kernel
theorem dX2_addPages_47 : decode cX2_addPages 47 = .ok (.iload_n 3, 1) := by decide +kernel
theorem dX2_addPages_48 : decode cX2_addPages 48 = .ok (.iconst 1, 1) := by decide +kernel
theorem dX2_addPages_49 : decode cX2_addPages 49 = .ok (.invokevirtual 80, 3) := by decide +kernel
theorem dX2_addPages_52 : decode cX2_addPages 52 = .ok (.bipush 8, 2) := by decide +kernel
theorem dX2_addPages_54 : decode cX2_addPages 54 = .ok (.if_icmp .le 9, 3) := by decide +kernel
theorem dX2_addPages_57 : decode cX2_addPages 57 = .ok (.aload_n 0, 1) := by decide +kernel
theorem dX2_addPages_58 : decode cX2_addPages 58 = .ok (.iconst 3, 1) := by decide +kernel
theorem dX2_addPages_59 : decode cX2_addPages 59 = .ok (.invokevirtual 66, 3) := by decide +kernel
theorem dX2_addPages_62 : decode cX2_addPages 62 = .ok (.ireturn, 1) := by decide +kernel
theorem dX2_addPages_63 : decode cX2_addPages 63 = .ok (.aload_n 0, 1) := by decide +kernel
theorem dX2_addPages_64 : decode cX2_addPages 64 = .ok (.iload_n 1, 1) := by decide +kernel
theorem dX2_addPages_65 : decode cX2_addPages 65 = .ok (.iload_n 2, 1) := by decide +kernel
theorem dX2_addPages_66 : decode cX2_addPages 66 = .ok (.iload_n 3, 1) := by decide +kernel
theorem dX2_addPages_67 : decode cX2_addPages 67 = .ok (.iconst 1, 1) := by decide +kernel
theorem dX2_addPages_68 : decode cX2_addPages 68 = .ok (.invokevirtual 84, 3) := by decide +kernel
theorem dX2_addPages_71 : decode cX2_addPages 71 = .ok (.aload_n 0, 1) := by decide +kernel
theorem dX2_addPages_72 : decode cX2_addPages 72 = .ok (.iload_n 1, 1) := by decide +kernel
theorem dX2_addPages_73 : decode cX2_addPages 73 = .ok (.iload_n 1, 1) := by decide +kernel
theorem dX2_addPages_74 : decode cX2_addPages 74 = .ok (.iconst 0, 1) := by decide +kernel
theorem dX2_addPages_75 : decode cX2_addPages 75 = .ok (.invokevirtual 88, 3) := by decide +kernel
theorem dX2_addPages_78 : decode cX2_addPages 78 = .ok (.ireturn, 1) := by decide +kernel
set_option maxRecDepth 20000 in
theorem ggX2_takePages_X2_isHeading : GoodIn wsX2_takePages wsX2_isHeading := goodIn_r _ [6, 7, 8, 9, 5, 10, 41, 42, 43, 44, 45, 46] (by decide +kernel) (by decide +kernel)
set_option maxRecDepth 20000 in
theorem gX2_takePages_X2_isHeading : GoodIn wsX2_takePages (wsV RX2 73 RX2 yX2_isHeading wsX2_isHeading) := goodIn_app (goodIn_of _ (by decide +kernel)) ggX2_takePages_X2_isHeading
set_option maxRecDepth 20000 in
theorem ggX2_takePages_X2_no : GoodIn wsX2_takePages wsX2_no := goodIn_r _ [14, 1, 41, 42, 43, 44, 45, 46] (by decide +kernel) (by decide +kernel)
set_option maxRecDepth 20000 in
theorem gX2_takePages_X2_no : GoodIn wsX2_takePages (wsV RX2 66 RX2 yX2_no wsX2_no) := goodIn_app (goodIn_of _ (by decide +kernel)) ggX2_takePages_X2_no
set_option maxRecDepth 20000 in
theorem ggX2_takePages_X2_arePages : GoodIn wsX2_takePages wsX2_arePages := goodIn_r _ [18, 19, 41, 42, 43, 44, 45, 46] (by decide +kernel) (by decide +kernel)
set_option maxRecDepth 20000 in
theorem gX2_takePages_X2_arePages : GoodIn wsX2_takePages (wsV RX2 77 RX2 yX2_arePages wsX2_arePages) := goodIn_app (goodIn_of _ (by decide +kernel)) ggX2_takePages_X2_arePages
set_option maxRecDepth 20000 in
theorem ggX2_takePages_X2_spansWith : GoodIn wsX2_takePages wsX2_spansWith := goodIn_r _ [23, 19, 8, 9, 5, 10, 24, 25, 26, 27, 28, 41, 42, 43, 44, 45, 46] (by decide +kernel) (by decide +kernel)
set_option maxRecDepth 20000 in
theorem gX2_takePages_X2_spansWith : GoodIn wsX2_takePages (wsV RX2 80 RX2 yX2_spansWith wsX2_spansWith) := goodIn_app (goodIn_of _ (by decide +kernel)) ggX2_takePages_X2_spansWith
set_option maxRecDepth 20000 in
theorem ggX2_takePages_X2_many : GoodIn wsX2_takePages wsX2_many := goodIn_r _ [32, 19, 24, 25, 26, 5, 27, 28, 41, 42, 43, 44, 45, 46] (by decide +kernel) (by decide +kernel)
set_option maxRecDepth 20000 in
theorem gX2_takePages_X2_many : GoodIn wsX2_takePages (wsV RX2 52 RX2 yX2_many wsX2_many) := goodIn_app (goodIn_of _ (by decide +kernel)) ggX2_takePages_X2_many
set_option maxRecDepth 20000 in
theorem ggX2_takePages_X2_put : GoodIn wsX2_takePages wsX2_put := goodIn_r _ [36, 37, 38, 39, 5, 40, 28, 41, 42, 43, 44, 45, 46] (by decide +kernel) (by decide +kernel)
set_option maxRecDepth 20000 in
theorem gX2_takePages_X2_put : GoodIn wsX2_takePages (wsV RX2 84 RX2 yX2_put wsX2_put) := goodIn_app (goodIn_of _ (by decide +kernel)) ggX2_takePages_X2_put
theorem dX2_takePages_0 : decode cX2_takePages 0 = .ok (.aload_n 0, 1) := by decide +kernel
theorem dX2_takePages_1 : decode cX2_takePages 1 = .ok (.iconst 0, 1) := by decide +kernel
theorem dX2_takePages_2 : decode cX2_takePages 2 = .ok (.putfield 24, 3) := by decide +kernel
theorem dX2_takePages_5 : decode cX2_takePages 5 = .ok (.aload_n 0, 1) := by decide +kernel
theorem dX2_takePages_6 : decode cX2_takePages 6 = .ok (.iload_n 1, 1) := by decide +kernel
theorem dX2_takePages_7 : decode cX2_takePages 7 = .ok (.invokevirtual 73, 3) := by decide +kernel
theorem dX2_takePages_10 : decode cX2_takePages 10 = .ok (.ifCond .ne 9, 3) := by decide +kernel
theorem dX2_takePages_13 : decode cX2_takePages 13 = .ok (.aload_n 0, 1) := by decide +kernel
theorem dX2_takePages_14 : decode cX2_takePages 14 = .ok (.iconst 1, 1) := by decide +kernel
theorem dX2_takePages_15 : decode cX2_takePages 15 = .ok (.invokevirtual 66, 3) := by decide +kernel
theorem dX2_takePages_18 : decode cX2_takePages 18 = .ok (.ireturn, 1) := by decide +kernel
theorem dX2_takePages_19 : decode cX2_takePages 19 = .ok (.aload_n 0, 1) := by decide +kernel
theorem dX2_takePages_20 : decode cX2_takePages 20 = .ok (.iload_n 2, 1) := by decide +kernel
theorem dX2_takePages_21 : decode cX2_takePages 21 = .ok (.iload_n 3, 1) := by decide +kernel
theorem dX2_takePages_22 : decode cX2_takePages 22 = .ok (.invokevirtual 77, 3) := by decide +kernel
theorem dX2_takePages_25 : decode cX2_takePages 25 = .ok (.ifCond .ne 9, 3) := by decide +kernel
theorem dX2_takePages_28 : decode cX2_takePages 28 = .ok (.aload_n 0, 1) := by decide +kernel
theorem dX2_takePages_29 : decode cX2_takePages 29 = .ok (.iconst 2, 1) := by decide +kernel
theorem dX2_takePages_30 : decode cX2_takePages 30 = .ok (.invokevirtual 66, 3) := by decide +kernel
theorem dX2_takePages_33 : decode cX2_takePages 33 = .ok (.ireturn, 1) := by decide +kernel
theorem dX2_takePages_34 : decode cX2_takePages 34 = .ok (.aload_n 0, 1) := by decide +kernel
theorem dX2_takePages_35 : decode cX2_takePages 35 = .ok (.iload_n 1, 1) := by decide +kernel
theorem dX2_takePages_36 : decode cX2_takePages 36 = .ok (.iload_n 2, 1) := by decide +kernel
theorem dX2_takePages_37 : decode cX2_takePages 37 = .ok (.iload_n 3, 1) := by decide +kernel
theorem dX2_takePages_38 : decode cX2_takePages 38 = .ok (.iconst 0, 1) := by decide +kernel
theorem dX2_takePages_39 : decode cX2_takePages 39 = .ok (.invokevirtual 80, 3) := by decide +kernel
theorem dX2_takePages_42 : decode cX2_takePages 42 = .ok (.bipush 8, 2) := by decide +kernel
theorem dX2_takePages_44 : decode cX2_takePages 44 = .ok (.if_icmp .le 9, 3) := by decide +kernel
theorem dX2_takePages_47 : decode cX2_takePages 47 = .ok (.aload_n 0, 1) := by decide +kernel
theorem dX2_takePages_48 : decode cX2_takePages 48 = .ok (.iconst 3, 1) := by decide +kernel
theorem dX2_takePages_49 : decode cX2_takePages 49 = .ok (.invokevirtual 66, 3) := by decide +kernel
theorem dX2_takePages_52 : decode cX2_takePages 52 = .ok (.ireturn, 1) := by decide +kernel
theorem dX2_takePages_53 : decode cX2_takePages 53 = .ok (.aload_n 0, 1) := by decide +kernel
theorem dX2_takePages_54 : decode cX2_takePages 54 = .ok (.iload_n 1, 1) := by decide +kernel
theorem dX2_takePages_55 : decode cX2_takePages 55 = .ok (.invokevirtual 52, 3) := by decide +kernel
theorem dX2_takePages_58 : decode cX2_takePages 58 = .ok (.istore 4, 2) := by decide +kernel
theorem dX2_takePages_60 : decode cX2_takePages 60 = .ok (.aload_n 0, 1) := by decide +kernel
theorem dX2_takePages_61 : decode cX2_takePages 61 = .ok (.iload_n 1, 1) := by decide +kernel
theorem dX2_takePages_62 : decode cX2_takePages 62 = .ok (.iload_n 2, 1) := by decide +kernel
theorem dX2_takePages_63 : decode cX2_takePages 63 = .ok (.iload_n 3, 1) := by decide +kernel
theorem dX2_takePages_64 : decode cX2_takePages 64 = .ok (.iconst 0, 1) := by decide +kernel
theorem dX2_takePages_65 : decode cX2_takePages 65 = .ok (.invokevirtual 84, 3) := by decide +kernel
theorem dX2_takePages_68 : decode cX2_takePages 68 = .ok (.iload 4, 2) := by decide +kernel
theorem dX2_takePages_70 : decode cX2_takePages 70 = .ok (.aload_n 0, 1) := by decide +kernel
theorem dX2_takePages_71 : decode cX2_takePages 71 = .ok (.iload_n 1, 1) := by decide +kernel
theorem dX2_takePages_72 : decode cX2_takePages 72 = .ok (.invokevirtual 52, 3) := by decide +kernel
theorem dX2_takePages_75 : decode cX2_takePages 75 = .ok (.isub, 1) := by decide +kernel
theorem dX2_takePages_76 : decode cX2_takePages 76 = .ok (.ireturn, 1) := by decide +kernel
set_option maxRecDepth 20000 in
theorem ggX2_setSee_X2_isHeading : GoodIn wsX2_setSee wsX2_isHeading := goodIn_r _ [7, 8, 9, 10, 6, 11, 26, 27, 28, 29, 30, 31] (by decide +kernel) (by decide +kernel)
set_option maxRecDepth 20000 in
theorem gX2_setSee_X2_isHeading : GoodIn wsX2_setSee (wsV RX2 73 RX2 yX2_isHeading wsX2_isHeading) := goodIn_app (goodIn_of _ (by decide +kernel)) ggX2_setSee_X2_isHeading
set_option maxRecDepth 20000 in
theorem ggX2_setSee_X2_no : GoodIn wsX2_setSee wsX2_no := goodIn_r _ [15, 1, 26, 27, 28, 29, 30, 31] (by decide +kernel) (by decide +kernel)
set_option maxRecDepth 20000 in
theorem gX2_setSee_X2_no : GoodIn wsX2_setSee (wsV RX2 66 RX2 yX2_no wsX2_no) := goodIn_app (goodIn_of _ (by decide +kernel)) ggX2_setSee_X2_no
set_option maxRecDepth 20000 in
theorem ggX2_setSee_X2_many : GoodIn wsX2_setSee wsX2_many := goodIn_r _ [19, 20, 21, 22, 23, 6, 24, 25, 26, 27, 28, 29, 30, 31] (by decide +kernel) (by decide +kernel)
set_option maxRecDepth 20000 in
theorem gX2_setSee_X2_many : GoodIn wsX2_setSee (wsV RX2 52 RX2 yX2_many wsX2_many) := goodIn_app (goodIn_of _ (by decide +kernel)) ggX2_setSee_X2_many
theorem dX2_setSee_0 : decode cX2_setSee 0 = .ok (.aload_n 0, 1) := by decide +kernel
theorem dX2_setSee_1 : decode cX2_setSee 1 = .ok (.iconst 0, 1) := by decide +kernel
theorem dX2_setSee_2 : decode cX2_setSee 2 = .ok (.putfield 24, 3) := by decide +kernel
theorem dX2_setSee_5 : decode cX2_setSee 5 = .ok (.aload_n 0, 1) := by decide +kernel
theorem dX2_setSee_6 : decode cX2_setSee 6 = .ok (.iload_n 1, 1) := by decide +kernel
theorem dX2_setSee_7 : decode cX2_setSee 7 = .ok (.invokevirtual 73, 3) := by decide +kernel
theorem dX2_setSee_10 : decode cX2_setSee 10 = .ok (.ifCond .eq 16, 3) := by decide +kernel
theorem dX2_setSee_13 : decode cX2_setSee 13 = .ok (.iload_n 2, 1) := by decide +kernel
theorem dX2_setSee_14 : decode cX2_setSee 14 = .ok (.iconst (-1), 1) := by decide +kernel
theorem dX2_setSee_15 : decode cX2_setSee 15 = .ok (.if_icmp .eq 17, 3) := by decide +kernel
theorem dX2_setSee_18 : decode cX2_setSee 18 = .ok (.aload_n 0, 1) := by decide +kernel
theorem dX2_setSee_19 : decode cX2_setSee 19 = .ok (.iload_n 2, 1) := by decide +kernel
theorem dX2_setSee_20 : decode cX2_setSee 20 = .ok (.invokevirtual 73, 3) := by decide +kernel
theorem dX2_setSee_23 : decode cX2_setSee 23 = .ok (.ifCond .ne 9, 3) := by decide +kernel
theorem dX2_setSee_26 : decode cX2_setSee 26 = .ok (.aload_n 0, 1) := by decide +kernel
theorem dX2_setSee_27 : decode cX2_setSee 27 = .ok (.iconst 1, 1) := by decide +kernel
theorem dX2_setSee_28 : decode cX2_setSee 28 = .ok (.invokevirtual 66, 3) := by decide +kernel
theorem dX2_setSee_31 : decode cX2_setSee 31 = .ok (.ireturn, 1) := by decide +kernel
theorem dX2_setSee_32 : decode cX2_setSee 32 = .ok (.iload_n 1, 1) := by decide +kernel
theorem dX2_setSee_33 : decode cX2_setSee 33 = .ok (.iload_n 2, 1) := by decide +kernel
theorem dX2_setSee_34 : decode cX2_setSee 34 = .ok (.if_icmp .ne 9, 3) := by decide +kernel
theorem dX2_setSee_37 : decode cX2_setSee 37 = .ok (.aload_n 0, 1) := by decide +kernel
theorem dX2_setSee_38 : decode cX2_setSee 38 = .ok (.iconst 2, 1) := by decide +kernel
theorem dX2_setSee_39 : decode cX2_setSee 39 = .ok (.invokevirtual 66, 3) := by decide +kernel
theorem dX2_setSee_42 : decode cX2_setSee 42 = .ok (.ireturn, 1) := by decide +kernel
theorem dX2_setSee_43 : decode cX2_setSee 43 = .ok (.iload_n 2, 1) := by decide +kernel
theorem dX2_setSee_44 : decode cX2_setSee 44 = .ok (.iconst (-1), 1) := by decide +kernel
theorem dX2_setSee_45 : decode cX2_setSee 45 = .ok (.if_icmp .eq 17, 3) := by decide +kernel
theorem dX2_setSee_48 : decode cX2_setSee 48 = .ok (.aload_n 0, 1) := by decide +kernel
theorem dX2_setSee_49 : decode cX2_setSee 49 = .ok (.iload_n 1, 1) := by decide +kernel
theorem dX2_setSee_50 : decode cX2_setSee 50 = .ok (.invokevirtual 52, 3) := by decide +kernel
theorem dX2_setSee_53 : decode cX2_setSee 53 = .ok (.ifCond .le 9, 3) := by decide +kernel
theorem dX2_setSee_56 : decode cX2_setSee 56 = .ok (.aload_n 0, 1) := by decide +kernel
theorem dX2_setSee_57 : decode cX2_setSee 57 = .ok (.iconst 3, 1) := by decide +kernel
theorem dX2_setSee_58 : decode cX2_setSee 58 = .ok (.invokevirtual 66, 3) := by decide +kernel
theorem dX2_setSee_61 : decode cX2_setSee 61 = .ok (.ireturn, 1) := by decide +kernel
theorem dX2_setSee_62 : decode cX2_setSee 62 = .ok (.aload_n 0, 1) := by decide +kernel
theorem dX2_setSee_63 : decode cX2_setSee 63 = .ok (.getfield 17, 3) := by decide +kernel
theorem dX2_setSee_66 : decode cX2_setSee 66 = .ok (.iload_n 1, 1) := by decide +kernel
theorem dX2_setSee_67 : decode cX2_setSee 67 = .ok (.iaload, 1) := by decide +kernel
theorem dX2_setSee_68 : decode cX2_setSee 68 = .ok (.istore_n 3, 1) := by decide +kernel
theorem dX2_setSee_69 : decode cX2_setSee 69 = .ok (.aload_n 0, 1) := by decide +kernel
theorem dX2_setSee_70 : decode cX2_setSee 70 = .ok (.getfield 17, 3) := by decide +kernel
theorem dX2_setSee_73 : decode cX2_setSee 73 = .ok (.iload_n 1, 1) := by decide +kernel
theorem dX2_setSee_74 : decode cX2_setSee 74 = .ok (.iload_n 2, 1) := by decide +kernel
theorem dX2_setSee_75 : decode cX2_setSee 75 = .ok (.iastore, 1) := by decide +kernel
theorem dX2_setSee_76 : decode cX2_setSee 76 = .ok (.iload_n 3, 1) := by decide +kernel
theorem dX2_setSee_77 : decode cX2_setSee 77 = .ok (.ireturn, 1) := by decide +kernel
set_option maxRecDepth 20000 in
theorem ggX2_turnSeeAlso_X2_isHeading : GoodIn wsX2_turnSeeAlso wsX2_isHeading := goodIn_r _ [7, 8, 9, 10, 6, 11, 23, 24, 25, 26, 27, 28] (by decide +kernel) (by decide +kernel)
set_option maxRecDepth 20000 in
theorem gX2_turnSeeAlso_X2_isHeading : GoodIn wsX2_turnSeeAlso (wsV RX2 73 RX2 yX2_isHeading wsX2_isHeading) := goodIn_app (goodIn_of _ (by decide +kernel)) ggX2_turnSeeAlso_X2_isHeading
set_option maxRecDepth 20000 in
theorem ggX2_turnSeeAlso_X2_no : GoodIn wsX2_turnSeeAlso wsX2_no := goodIn_r _ [15, 1, 23, 24, 25, 26, 27, 28] (by decide +kernel) (by decide +kernel)
set_option maxRecDepth 20000 in
theorem gX2_turnSeeAlso_X2_no : GoodIn wsX2_turnSeeAlso (wsV RX2 66 RX2 yX2_no wsX2_no) := goodIn_app (goodIn_of _ (by decide +kernel)) ggX2_turnSeeAlso_X2_no
set_option maxRecDepth 20000 in
theorem ggX2_turnSeeAlso_J6_bitCount_0f7a4 : GoodIn wsX2_turnSeeAlso wsJ6_bitCount_0f7a4 := goodIn_r _ [19, 20, 21, 22] (by decide +kernel) (by decide +kernel)
set_option maxRecDepth 20000 in
theorem gX2_turnSeeAlso_J6_bitCount_0f7a4 : GoodIn wsX2_turnSeeAlso (va_wsS RX2 61 yJ6_bitCount_0f7a4 wsJ6_bitCount_0f7a4) := goodIn_app (goodIn_of _ (by decide +kernel)) ggX2_turnSeeAlso_J6_bitCount_0f7a4
theorem dX2_turnSeeAlso_0 : decode cX2_turnSeeAlso 0 = .ok (.aload_n 0, 1) := by decide +kernel
theorem dX2_turnSeeAlso_1 : decode cX2_turnSeeAlso 1 = .ok (.iconst 0, 1) := by decide +kernel
theorem dX2_turnSeeAlso_2 : decode cX2_turnSeeAlso 2 = .ok (.putfield 24, 3) := by decide +kernel
theorem dX2_turnSeeAlso_5 : decode cX2_turnSeeAlso 5 = .ok (.aload_n 0, 1) := by decide +kernel
theorem dX2_turnSeeAlso_6 : decode cX2_turnSeeAlso 6 = .ok (.iload_n 1, 1) := by decide +kernel
theorem dX2_turnSeeAlso_7 : decode cX2_turnSeeAlso 7 = .ok (.invokevirtual 73, 3) := by decide +kernel
theorem dX2_turnSeeAlso_10 : decode cX2_turnSeeAlso 10 = .ok (.ifCond .eq 11, 3) := by decide +kernel
theorem dX2_turnSeeAlso_13 : decode cX2_turnSeeAlso 13 = .ok (.aload_n 0, 1) := by decide +kernel
theorem dX2_turnSeeAlso_14 : decode cX2_turnSeeAlso 14 = .ok (.iload_n 2, 1) := by decide +kernel
theorem dX2_turnSeeAlso_15 : decode cX2_turnSeeAlso 15 = .ok (.invokevirtual 73, 3) := by decide +kernel
theorem dX2_turnSeeAlso_18 : decode cX2_turnSeeAlso 18 = .ok (.ifCond .ne 9, 3) := by decide +kernel
theorem dX2_turnSeeAlso_21 : decode cX2_turnSeeAlso 21 = .ok (.aload_n 0, 1) := by decide +kernel
theorem dX2_turnSeeAlso_22 : decode cX2_turnSeeAlso 22 = .ok (.iconst 1, 1) := by decide +kernel
theorem dX2_turnSeeAlso_23 : decode cX2_turnSeeAlso 23 = .ok (.invokevirtual 66, 3) := by decide +kernel
theorem dX2_turnSeeAlso_26 : decode cX2_turnSeeAlso 26 = .ok (.ireturn, 1) := by decide +kernel
theorem dX2_turnSeeAlso_27 : decode cX2_turnSeeAlso 27 = .ok (.iload_n 1, 1) := by decide +kernel
theorem dX2_turnSeeAlso_28 : decode cX2_turnSeeAlso 28 = .ok (.iload_n 2, 1) := by decide +kernel
theorem dX2_turnSeeAlso_29 : decode cX2_turnSeeAlso 29 = .ok (.if_icmp .ne 9, 3) := by decide +kernel
theorem dX2_turnSeeAlso_32 : decode cX2_turnSeeAlso 32 = .ok (.aload_n 0, 1) := by decide +kernel
theorem dX2_turnSeeAlso_33 : decode cX2_turnSeeAlso 33 = .ok (.iconst 2, 1) := by decide +kernel
theorem dX2_turnSeeAlso_34 : decode cX2_turnSeeAlso 34 = .ok (.invokevirtual 66, 3) := by decide +kernel
theorem dX2_turnSeeAlso_37 : decode cX2_turnSeeAlso 37 = .ok (.ireturn, 1) := by decide +kernel
theorem dX2_turnSeeAlso_38 : decode cX2_turnSeeAlso 38 = .ok (.aload_n 0, 1) := by decide +kernel
theorem dX2_turnSeeAlso_39 : decode cX2_turnSeeAlso 39 = .ok (.getfield 21, 3) := by decide +kernel
theorem dX2_turnSeeAlso_42 : decode cX2_turnSeeAlso 42 = .ok (.iload_n 1, 1) := by decide +kernel
theorem dX2_turnSeeAlso_43 : decode cX2_turnSeeAlso 43 = .ok (.iaload, 1) := by decide +kernel
theorem dX2_turnSeeAlso_44 : decode cX2_turnSeeAlso 44 = .ok (.iload_n 2, 1) := by decide +kernel
theorem dX2_turnSeeAlso_45 : decode cX2_turnSeeAlso 45 = .ok (.ishr, 1) := by decide +kernel
theorem dX2_turnSeeAlso_46 : decode cX2_turnSeeAlso 46 = .ok (.iconst 1, 1) := by decide +kernel
theorem dX2_turnSeeAlso_47 : decode cX2_turnSeeAlso 47 = .ok (.iand, 1) := by decide +kernel
theorem dX2_turnSeeAlso_48 : decode cX2_turnSeeAlso 48 = .ok (.iconst 1, 1) := by decide +kernel
theorem dX2_turnSeeAlso_49 : decode cX2_turnSeeAlso 49 = .ok (.if_icmp .ne 7, 3) := by decide +kernel
theorem dX2_turnSeeAlso_52 : decode cX2_turnSeeAlso 52 = .ok (.iconst 1, 1) := by decide +kernel
theorem dX2_turnSeeAlso_53 : decode cX2_turnSeeAlso 53 = .ok (.goto 4, 3) := by decide +kernel
theorem dX2_turnSeeAlso_56 : decode cX2_turnSeeAlso 56 = .ok (.iconst 0, 1) := by decide +kernel
theorem dX2_turnSeeAlso_57 : decode cX2_turnSeeAlso 57 = .ok (.istore_n 3, 1) := by decide +kernel
theorem dX2_turnSeeAlso_58 : decode cX2_turnSeeAlso 58 = .ok (.iload_n 3, 1) := by decide +kernel
theorem dX2_turnSeeAlso_59 : decode cX2_turnSeeAlso 59 = .ok (.ifCond .ne 22, 3) := by decide +kernel
theorem dX2_turnSeeAlso_62 : decode cX2_turnSeeAlso 62 = .ok (.aload_n 0, 1) := by decide +kernel
theorem dX2_turnSeeAlso_63 : decode cX2_turnSeeAlso 63 = .ok (.getfield 21, 3) := by decide +kernel
theorem dX2_turnSeeAlso_66 : decode cX2_turnSeeAlso 66 = .ok (.iload_n 1, 1) := by decide +kernel
theorem dX2_turnSeeAlso_67 : decode cX2_turnSeeAlso 67 = .ok (.iaload, 1) := by decide +kernel
theorem dX2_turnSeeAlso_68 : decode cX2_turnSeeAlso 68 = .ok (.invokestatic 61, 3) := by decide +kernel
theorem dX2_turnSeeAlso_71 : decode cX2_turnSeeAlso 71 = .ok (.iconst 4, 1) := by decide +kernel
theorem dX2_turnSeeAlso_72 : decode cX2_turnSeeAlso 72 = .ok (.if_icmp .ne 9, 3) := by decide +kernel
theorem dX2_turnSeeAlso_75 : decode cX2_turnSeeAlso 75 = .ok (.aload_n 0, 1) := by decide +kernel
theorem dX2_turnSeeAlso_76 : decode cX2_turnSeeAlso 76 = .ok (.iconst 3, 1) := by decide +kernel
theorem dX2_turnSeeAlso_77 : decode cX2_turnSeeAlso 77 = .ok (.invokevirtual 66, 3) := by decide +kernel
theorem dX2_turnSeeAlso_80 : decode cX2_turnSeeAlso 80 = .ok (.ireturn, 1) := by decide +kernel
theorem dX2_turnSeeAlso_81 : decode cX2_turnSeeAlso 81 = .ok (.aload_n 0, 1) := by decide +kernel
theorem dX2_turnSeeAlso_82 : decode cX2_turnSeeAlso 82 = .ok (.getfield 21, 3) := by decide +kernel
theorem dX2_turnSeeAlso_85 : decode cX2_turnSeeAlso 85 = .ok (.iload_n 1, 1) := by decide +kernel
theorem dX2_turnSeeAlso_86 : decode cX2_turnSeeAlso 86 = .ok (.dup2, 1) := by decide +kernel
theorem dX2_turnSeeAlso_87 : decode cX2_turnSeeAlso 87 = .ok (.iaload, 1) := by decide +kernel
theorem dX2_turnSeeAlso_88 : decode cX2_turnSeeAlso 88 = .ok (.iconst 1, 1) := by decide +kernel
theorem dX2_turnSeeAlso_89 : decode cX2_turnSeeAlso 89 = .ok (.iload_n 2, 1) := by decide +kernel
theorem dX2_turnSeeAlso_90 : decode cX2_turnSeeAlso 90 = .ok (.ishl, 1) := by decide +kernel
theorem dX2_turnSeeAlso_91 : decode cX2_turnSeeAlso 91 = .ok (.ixor, 1) := by decide +kernel
theorem dX2_turnSeeAlso_92 : decode cX2_turnSeeAlso 92 = .ok (.iastore, 1) := by decide +kernel
theorem dX2_turnSeeAlso_93 : decode cX2_turnSeeAlso 93 = .ok (.aload_n 0, 1) := by decide +kernel
theorem dX2_turnSeeAlso_94 : decode cX2_turnSeeAlso 94 = .ok (.getfield 21, 3) := by decide +kernel
theorem dX2_turnSeeAlso_97 : decode cX2_turnSeeAlso 97 = .ok (.iload_n 1, 1) := by decide +kernel
theorem dX2_turnSeeAlso_98 : decode cX2_turnSeeAlso 98 = .ok (.iaload, 1) := by decide +kernel
theorem dX2_turnSeeAlso_99 : decode cX2_turnSeeAlso 99 = .ok (.invokestatic 61, 3) := by decide +kernel
theorem dX2_turnSeeAlso_102 : decode cX2_turnSeeAlso 102 = .ok (.ireturn, 1) := by decide +kernel
set_option maxRecDepth 20000 in
theorem ggX2_putIn_X2_isIn : GoodIn wsX2_putIn wsX2_isIn := goodIn_r _ [7] (by decide +kernel) (by decide +kernel)
set_option maxRecDepth 20000 in
theorem gX2_putIn_X2_isIn : GoodIn wsX2_putIn (va_wsS RX2 30 yX2_isIn wsX2_isIn) := goodIn_app (goodIn_of _ (by decide +kernel)) ggX2_putIn_X2_isIn
set_option maxRecDepth 20000 in
theorem ggX2_putIn_X2_no : GoodIn wsX2_putIn wsX2_no := goodIn_r _ [11, 1, 25, 26, 27, 28, 29, 30] (by decide +kernel) (by decide +kernel)
set_option maxRecDepth 20000 in
theorem gX2_putIn_X2_no : GoodIn wsX2_putIn (wsV RX2 66 RX2 yX2_no wsX2_no) := goodIn_app (goodIn_of _ (by decide +kernel)) ggX2_putIn_X2_no
set_option maxRecDepth 20000 in
theorem ggX2_putIn_X2_has : GoodIn wsX2_putIn wsX2_has := goodIn_r _ [15, 16, 25, 26, 27, 28, 29, 30] (by decide +kernel) (by decide +kernel)
set_option maxRecDepth 20000 in
theorem gX2_putIn_X2_has : GoodIn wsX2_putIn (wsV RX2 34 RX2 yX2_has wsX2_has) := goodIn_app (goodIn_of _ (by decide +kernel)) ggX2_putIn_X2_has
set_option maxRecDepth 20000 in
theorem ggX2_putIn_X2_let : GoodIn wsX2_putIn wsX2_let := goodIn_r _ [20, 16, 25, 26, 27, 28, 29, 30] (by decide +kernel) (by decide +kernel)
set_option maxRecDepth 20000 in
theorem gX2_putIn_X2_let : GoodIn wsX2_putIn (wsV RX2 69 RX2 yX2_let wsX2_let) := goodIn_app (goodIn_of _ (by decide +kernel)) ggX2_putIn_X2_let
set_option maxRecDepth 20000 in
theorem ggX2_putIn_X2_put : GoodIn wsX2_putIn wsX2_put := goodIn_r _ [24, 17, 18, 19, 6, 20, 16, 25, 26, 27, 28, 29, 30] (by decide +kernel) (by decide +kernel)
set_option maxRecDepth 20000 in
theorem gX2_putIn_X2_put : GoodIn wsX2_putIn (wsV RX2 84 RX2 yX2_put wsX2_put) := goodIn_app (goodIn_of _ (by decide +kernel)) ggX2_putIn_X2_put
theorem dX2_putIn_0 : decode cX2_putIn 0 = .ok (.aload_n 0, 1) := by decide +kernel
theorem dX2_putIn_1 : decode cX2_putIn 1 = .ok (.iconst 0, 1) := by decide +kernel
theorem dX2_putIn_2 : decode cX2_putIn 2 = .ok (.putfield 24, 3) := by decide +kernel
theorem dX2_putIn_5 : decode cX2_putIn 5 = .ok (.iload_n 1, 1) := by decide +kernel
theorem dX2_putIn_6 : decode cX2_putIn 6 = .ok (.iconst 1, 1) := by decide +kernel
theorem dX2_putIn_7 : decode cX2_putIn 7 = .ok (.aload_n 0, 1) := by decide +kernel
theorem dX2_putIn_8 : decode cX2_putIn 8 = .ok (.getfield 9, 3) := by decide +kernel
theorem dX2_putIn_11 : decode cX2_putIn 11 = .ok (.iconst 1, 1) := by decide +kernel
theorem dX2_putIn_12 : decode cX2_putIn 12 = .ok (.iadd, 1) := by decide +kernel
theorem dX2_putIn_13 : decode cX2_putIn 13 = .ok (.invokestatic 30, 3) := by decide +kernel
theorem dX2_putIn_16 : decode cX2_putIn 16 = .ok (.ifCond .eq 13, 3) := by decide +kernel
theorem dX2_putIn_19 : decode cX2_putIn 19 = .ok (.iload_n 2, 1) := by decide +kernel
theorem dX2_putIn_20 : decode cX2_putIn 20 = .ok (.iconst 1, 1) := by decide +kernel
theorem dX2_putIn_21 : decode cX2_putIn 21 = .ok (.bipush 100, 2) := by decide +kernel
theorem dX2_putIn_23 : decode cX2_putIn 23 = .ok (.invokestatic 30, 3) := by decide +kernel
theorem dX2_putIn_26 : decode cX2_putIn 26 = .ok (.ifCond .ne 9, 3) := by decide +kernel
theorem dX2_putIn_29 : decode cX2_putIn 29 = .ok (.aload_n 0, 1) := by decide +kernel
theorem dX2_putIn_30 : decode cX2_putIn 30 = .ok (.iconst 1, 1) := by decide +kernel
theorem dX2_putIn_31 : decode cX2_putIn 31 = .ok (.invokevirtual 66, 3) := by decide +kernel
theorem dX2_putIn_34 : decode cX2_putIn 34 = .ok (.ireturn, 1) := by decide +kernel
theorem dX2_putIn_35 : decode cX2_putIn 35 = .ok (.aload_n 0, 1) := by decide +kernel
theorem dX2_putIn_36 : decode cX2_putIn 36 = .ok (.getfield 9, 3) := by decide +kernel
theorem dX2_putIn_39 : decode cX2_putIn 39 = .ok (.iload_n 2, 1) := by decide +kernel
theorem dX2_putIn_40 : decode cX2_putIn 40 = .ok (.iadd, 1) := by decide +kernel
theorem dX2_putIn_41 : decode cX2_putIn 41 = .ok (.sipush 300, 3) := by decide +kernel
theorem dX2_putIn_44 : decode cX2_putIn 44 = .ok (.if_icmp .le 9, 3) := by decide +kernel
theorem dX2_putIn_47 : decode cX2_putIn 47 = .ok (.aload_n 0, 1) := by decide +kernel
theorem dX2_putIn_48 : decode cX2_putIn 48 = .ok (.iconst 2, 1) := by decide +kernel
theorem dX2_putIn_49 : decode cX2_putIn 49 = .ok (.invokevirtual 66, 3) := by decide +kernel
theorem dX2_putIn_52 : decode cX2_putIn 52 = .ok (.ireturn, 1) := by decide +kernel
theorem dX2_putIn_53 : decode cX2_putIn 53 = .ok (.iconst 0, 1) := by decide +kernel
theorem dX2_putIn_54 : decode cX2_putIn 54 = .ok (.istore_n 3, 1) := by decide +kernel
theorem dX2_putIn_55 : decode cX2_putIn 55 = .ok (.iload_n 3, 1) := by decide +kernel
theorem dX2_putIn_56 : decode cX2_putIn 56 = .ok (.aload_n 0, 1) := by decide +kernel
theorem dX2_putIn_57 : decode cX2_putIn 57 = .ok (.getfield 27, 3) := by decide +kernel
theorem dX2_putIn_60 : decode cX2_putIn 60 = .ok (.if_icmp .ge 83, 3) := by decide +kernel
theorem dX2_putIn_63 : decode cX2_putIn 63 = .ok (.aload_n 0, 1) := by decide +kernel
theorem dX2_putIn_64 : decode cX2_putIn 64 = .ok (.iload_n 3, 1) := by decide +kernel
theorem dX2_putIn_65 : decode cX2_putIn 65 = .ok (.iload_n 1, 1) := by decide +kernel
theorem dX2_putIn_66 : decode cX2_putIn 66 = .ok (.iconst 1, 1) := by decide +kernel
theorem dX2_putIn_67 : decode cX2_putIn 67 = .ok (.isub, 1) := by decide +kernel
theorem dX2_putIn_68 : decode cX2_putIn 68 = .ok (.invokevirtual 34, 3) := by decide +kernel
theorem dX2_putIn_71 : decode cX2_putIn 71 = .ok (.ifCond .eq 16, 3) := by decide +kernel
theorem dX2_putIn_74 : decode cX2_putIn 74 = .ok (.aload_n 0, 1) := by decide +kernel
theorem dX2_putIn_75 : decode cX2_putIn 75 = .ok (.iload_n 3, 1) := by decide +kernel
theorem dX2_putIn_76 : decode cX2_putIn 76 = .ok (.iload_n 1, 1) := by decide +kernel
theorem dX2_putIn_77 : decode cX2_putIn 77 = .ok (.invokevirtual 34, 3) := by decide +kernel
theorem dX2_putIn_80 : decode cX2_putIn 80 = .ok (.ifCond .eq 7, 3) := by decide +kernel
theorem dX2_putIn_83 : decode cX2_putIn 83 = .ok (.iconst 1, 1) := by decide +kernel
theorem dX2_putIn_84 : decode cX2_putIn 84 = .ok (.goto 4, 3) := by decide +kernel
theorem dX2_putIn_87 : decode cX2_putIn 87 = .ok (.iconst 0, 1) := by decide +kernel
theorem dX2_putIn_88 : decode cX2_putIn 88 = .ok (.istore 4, 2) := by decide +kernel
theorem dX2_putIn_90 : decode cX2_putIn 90 = .ok (.aload_n 0, 1) := by decide +kernel
theorem dX2_putIn_91 : decode cX2_putIn 91 = .ok (.getfield 9, 3) := by decide +kernel
theorem dX2_putIn_94 : decode cX2_putIn 94 = .ok (.istore 5, 2) := by decide +kernel
theorem dX2_putIn_96 : decode cX2_putIn 96 = .ok (.iload 5, 2) := by decide +kernel
theorem dX2_putIn_98 : decode cX2_putIn 98 = .ok (.iload_n 1, 1) := by decide +kernel
theorem dX2_putIn_99 : decode cX2_putIn 99 = .ok (.if_icmp .lt 25, 3) := by decide +kernel
theorem dX2_putIn_102 : decode cX2_putIn 102 = .ok (.aload_n 0, 1) := by decide +kernel
theorem dX2_putIn_103 : decode cX2_putIn 103 = .ok (.iload_n 3, 1) := by decide +kernel
theorem dX2_putIn_104 : decode cX2_putIn 104 = .ok (.iload 5, 2) := by decide +kernel
theorem dX2_putIn_106 : decode cX2_putIn 106 = .ok (.iload_n 2, 1) := by decide +kernel
theorem dX2_putIn_107 : decode cX2_putIn 107 = .ok (.iadd, 1) := by decide +kernel
theorem dX2_putIn_108 : decode cX2_putIn 108 = .ok (.aload_n 0, 1) := by decide +kernel
theorem dX2_putIn_109 : decode cX2_putIn 109 = .ok (.iload_n 3, 1) := by decide +kernel
theorem dX2_putIn_110 : decode cX2_putIn 110 = .ok (.iload 5, 2) := by decide +kernel
theorem dX2_putIn_112 : decode cX2_putIn 112 = .ok (.invokevirtual 34, 3) := by decide +kernel
theorem dX2_putIn_115 : decode cX2_putIn 115 = .ok (.invokevirtual 69, 3) := by decide +kernel
theorem dX2_putIn_118 : decode cX2_putIn 118 = .ok (.iinc 5 (-1), 3) := by decide +kernel
theorem dX2_putIn_121 : decode cX2_putIn 121 = .ok (.goto (-25), 3) := by decide +kernel
theorem dX2_putIn_124 : decode cX2_putIn 124 = .ok (.aload_n 0, 1) := by decide +kernel
theorem dX2_putIn_125 : decode cX2_putIn 125 = .ok (.iload_n 3, 1) := by decide +kernel
theorem dX2_putIn_126 : decode cX2_putIn 126 = .ok (.iload_n 1, 1) := by decide +kernel
theorem dX2_putIn_127 : decode cX2_putIn 127 = .ok (.iload_n 1, 1) := by decide +kernel
theorem dX2_putIn_128 : decode cX2_putIn 128 = .ok (.iload_n 2, 1) := by decide +kernel
theorem dX2_putIn_129 : decode cX2_putIn 129 = .ok (.iadd, 1) := by decide +kernel
theorem dX2_putIn_130 : decode cX2_putIn 130 = .ok (.iconst 1, 1) := by decide +kernel
theorem dX2_putIn_131 : decode cX2_putIn 131 = .ok (.isub, 1) := by decide +kernel
theorem dX2_putIn_132 : decode cX2_putIn 132 = .ok (.iload 4, 2) := by decide +kernel
theorem dX2_putIn_134 : decode cX2_putIn 134 = .ok (.invokevirtual 84, 3) := by decide +kernel
theorem dX2_putIn_137 : decode cX2_putIn 137 = .ok (.iinc 3 1, 3) := by decide +kernel
theorem dX2_putIn_140 : decode cX2_putIn 140 = .ok (.goto (-85), 3) := by decide +kernel
theorem dX2_putIn_143 : decode cX2_putIn 143 = .ok (.aload_n 0, 1) := by decide +kernel
theorem dX2_putIn_144 : decode cX2_putIn 144 = .ok (.dup, 1) := by decide +kernel
theorem dX2_putIn_145 : decode cX2_putIn 145 = .ok (.getfield 9, 3) := by decide +kernel
theorem dX2_putIn_148 : decode cX2_putIn 148 = .ok (.iload_n 2, 1) := by decide +kernel
theorem dX2_putIn_149 : decode cX2_putIn 149 = .ok (.iadd, 1) := by decide +kernel
theorem dX2_putIn_150 : decode cX2_putIn 150 = .ok (.putfield 9, 3) := by decide +kernel
theorem dX2_putIn_153 : decode cX2_putIn 153 = .ok (.aload_n 0, 1) := by decide +kernel
theorem dX2_putIn_154 : decode cX2_putIn 154 = .ok (.getfield 9, 3) := by decide +kernel
theorem dX2_putIn_157 : decode cX2_putIn 157 = .ok (.ireturn, 1) := by decide +kernel
set_option maxRecDepth 20000 in
theorem ggX2_takeOut_X2_isPage : GoodIn wsX2_takeOut wsX2_isPage := goodIn_r _ [8, 2, 9, 10, 7, 11, 29, 30, 31, 32, 33, 34] (by decide +kernel) (by decide +kernel)
set_option maxRecDepth 20000 in
theorem gX2_takeOut_X2_isPage : GoodIn wsX2_takeOut (wsV RX2 92 RX2 yX2_isPage wsX2_isPage) := goodIn_app (goodIn_of _ (by decide +kernel)) ggX2_takeOut_X2_isPage
set_option maxRecDepth 20000 in
theorem ggX2_takeOut_X2_no : GoodIn wsX2_takeOut wsX2_no := goodIn_r _ [15, 1, 29, 30, 31, 32, 33, 34] (by decide +kernel) (by decide +kernel)
set_option maxRecDepth 20000 in
theorem gX2_takeOut_X2_no : GoodIn wsX2_takeOut (wsV RX2 66 RX2 yX2_no wsX2_no) := goodIn_app (goodIn_of _ (by decide +kernel)) ggX2_takeOut_X2_no
set_option maxRecDepth 20000 in
theorem ggX2_takeOut_X2_onPage : GoodIn wsX2_takeOut wsX2_onPage := goodIn_r _ [19, 3, 20, 21, 22, 7, 23, 24, 29, 30, 31, 32, 33, 34] (by decide +kernel) (by decide +kernel)
set_option maxRecDepth 20000 in
theorem gX2_takeOut_X2_onPage : GoodIn wsX2_takeOut (wsV RX2 45 RX2 yX2_onPage wsX2_onPage) := goodIn_app (goodIn_of _ (by decide +kernel)) ggX2_takeOut_X2_onPage
set_option maxRecDepth 20000 in
theorem ggX2_takeOut_X2_has : GoodIn wsX2_takeOut wsX2_has := goodIn_r _ [23, 24, 29, 30, 31, 32, 33, 34] (by decide +kernel) (by decide +kernel)
set_option maxRecDepth 20000 in
theorem gX2_takeOut_X2_has : GoodIn wsX2_takeOut (wsV RX2 34 RX2 yX2_has wsX2_has) := goodIn_app (goodIn_of _ (by decide +kernel)) ggX2_takeOut_X2_has
set_option maxRecDepth 20000 in
theorem ggX2_takeOut_X2_let : GoodIn wsX2_takeOut wsX2_let := goodIn_r _ [28, 24, 29, 30, 31, 32, 33, 34] (by decide +kernel) (by decide +kernel)
set_option maxRecDepth 20000 in
theorem gX2_takeOut_X2_let : GoodIn wsX2_takeOut (wsV RX2 69 RX2 yX2_let wsX2_let) := goodIn_app (goodIn_of _ (by decide +kernel)) ggX2_takeOut_X2_let
theorem dX2_takeOut_0 : decode cX2_takeOut 0 = .ok (.aload_n 0, 1) := by decide +kernel
theorem dX2_takeOut_1 : decode cX2_takeOut 1 = .ok (.iconst 0, 1) := by decide +kernel
theorem dX2_takeOut_2 : decode cX2_takeOut 2 = .ok (.putfield 24, 3) := by decide +kernel
theorem dX2_takeOut_5 : decode cX2_takeOut 5 = .ok (.aload_n 0, 1) := by decide +kernel
theorem dX2_takeOut_6 : decode cX2_takeOut 6 = .ok (.iload_n 1, 1) := by decide +kernel
theorem dX2_takeOut_7 : decode cX2_takeOut 7 = .ok (.invokevirtual 92, 3) := by decide +kernel
theorem dX2_takeOut_10 : decode cX2_takeOut 10 = .ok (.ifCond .ne 9, 3) := by decide +kernel
theorem dX2_takeOut_13 : decode cX2_takeOut 13 = .ok (.aload_n 0, 1) := by decide +kernel
theorem dX2_takeOut_14 : decode cX2_takeOut 14 = .ok (.iconst 1, 1) := by decide +kernel
theorem dX2_takeOut_15 : decode cX2_takeOut 15 = .ok (.invokevirtual 66, 3) := by decide +kernel
theorem dX2_takeOut_18 : decode cX2_takeOut 18 = .ok (.ireturn, 1) := by decide +kernel
theorem dX2_takeOut_19 : decode cX2_takeOut 19 = .ok (.aload_n 0, 1) := by decide +kernel
theorem dX2_takeOut_20 : decode cX2_takeOut 20 = .ok (.getfield 9, 3) := by decide +kernel
theorem dX2_takeOut_23 : decode cX2_takeOut 23 = .ok (.iconst 1, 1) := by decide +kernel
theorem dX2_takeOut_24 : decode cX2_takeOut 24 = .ok (.if_icmp .ne 9, 3) := by decide +kernel
theorem dX2_takeOut_27 : decode cX2_takeOut 27 = .ok (.aload_n 0, 1) := by decide +kernel
theorem dX2_takeOut_28 : decode cX2_takeOut 28 = .ok (.iconst 2, 1) := by decide +kernel
theorem dX2_takeOut_29 : decode cX2_takeOut 29 = .ok (.invokevirtual 66, 3) := by decide +kernel
theorem dX2_takeOut_32 : decode cX2_takeOut 32 = .ok (.ireturn, 1) := by decide +kernel
theorem dX2_takeOut_33 : decode cX2_takeOut 33 = .ok (.aload_n 0, 1) := by decide +kernel
theorem dX2_takeOut_34 : decode cX2_takeOut 34 = .ok (.iload_n 1, 1) := by decide +kernel
theorem dX2_takeOut_35 : decode cX2_takeOut 35 = .ok (.invokevirtual 45, 3) := by decide +kernel
theorem dX2_takeOut_38 : decode cX2_takeOut 38 = .ok (.istore_n 2, 1) := by decide +kernel
theorem dX2_takeOut_39 : decode cX2_takeOut 39 = .ok (.iconst 0, 1) := by decide +kernel
theorem dX2_takeOut_40 : decode cX2_takeOut 40 = .ok (.istore_n 3, 1) := by decide +kernel
theorem dX2_takeOut_41 : decode cX2_takeOut 41 = .ok (.iload_n 3, 1) := by decide +kernel
theorem dX2_takeOut_42 : decode cX2_takeOut 42 = .ok (.aload_n 0, 1) := by decide +kernel
theorem dX2_takeOut_43 : decode cX2_takeOut 43 = .ok (.getfield 27, 3) := by decide +kernel
theorem dX2_takeOut_46 : decode cX2_takeOut 46 = .ok (.if_icmp .ge 53, 3) := by decide +kernel
theorem dX2_takeOut_49 : decode cX2_takeOut 49 = .ok (.iload_n 1, 1) := by decide +kernel
theorem dX2_takeOut_50 : decode cX2_takeOut 50 = .ok (.istore 4, 2) := by decide +kernel
theorem dX2_takeOut_52 : decode cX2_takeOut 52 = .ok (.iload 4, 2) := by decide +kernel
theorem dX2_takeOut_54 : decode cX2_takeOut 54 = .ok (.aload_n 0, 1) := by decide +kernel
theorem dX2_takeOut_55 : decode cX2_takeOut 55 = .ok (.getfield 9, 3) := by decide +kernel
theorem dX2_takeOut_58 : decode cX2_takeOut 58 = .ok (.if_icmp .ge 25, 3) := by decide +kernel
theorem dX2_takeOut_61 : decode cX2_takeOut 61 = .ok (.aload_n 0, 1) := by decide +kernel
theorem dX2_takeOut_62 : decode cX2_takeOut 62 = .ok (.iload_n 3, 1) := by decide +kernel
theorem dX2_takeOut_63 : decode cX2_takeOut 63 = .ok (.iload 4, 2) := by decide +kernel
theorem dX2_takeOut_65 : decode cX2_takeOut 65 = .ok (.aload_n 0, 1) := by decide +kernel
theorem dX2_takeOut_66 : decode cX2_takeOut 66 = .ok (.iload_n 3, 1) := by decide +kernel
theorem dX2_takeOut_67 : decode cX2_takeOut 67 = .ok (.iload 4, 2) := by decide +kernel
theorem dX2_takeOut_69 : decode cX2_takeOut 69 = .ok (.iconst 1, 1) := by decide +kernel
theorem dX2_takeOut_70 : decode cX2_takeOut 70 = .ok (.iadd, 1) := by decide +kernel
theorem dX2_takeOut_71 : decode cX2_takeOut 71 = .ok (.invokevirtual 34, 3) := by decide +kernel
theorem dX2_takeOut_74 : decode cX2_takeOut 74 = .ok (.invokevirtual 69, 3) := by decide +kernel
theorem dX2_takeOut_77 : decode cX2_takeOut 77 = .ok (.iinc 4 1, 3) := by decide +kernel
theorem dX2_takeOut_80 : decode cX2_takeOut 80 = .ok (.goto (-28), 3) := by decide +kernel
theorem dX2_takeOut_83 : decode cX2_takeOut 83 = .ok (.aload_n 0, 1) := by decide +kernel
theorem dX2_takeOut_84 : decode cX2_takeOut 84 = .ok (.iload_n 3, 1) := by decide +kernel
theorem dX2_takeOut_85 : decode cX2_takeOut 85 = .ok (.aload_n 0, 1) := by decide +kernel
theorem dX2_takeOut_86 : decode cX2_takeOut 86 = .ok (.getfield 9, 3) := by decide +kernel
theorem dX2_takeOut_89 : decode cX2_takeOut 89 = .ok (.iconst 0, 1) := by decide +kernel
theorem dX2_takeOut_90 : decode cX2_takeOut 90 = .ok (.invokevirtual 69, 3) := by decide +kernel
theorem dX2_takeOut_93 : decode cX2_takeOut 93 = .ok (.iinc 3 1, 3) := by decide +kernel
theorem dX2_takeOut_96 : decode cX2_takeOut 96 = .ok (.goto (-55), 3) := by decide +kernel
theorem dX2_takeOut_99 : decode cX2_takeOut 99 = .ok (.aload_n 0, 1) := by decide +kernel
theorem dX2_takeOut_100 : decode cX2_takeOut 100 = .ok (.dup, 1) := by decide +kernel
theorem dX2_takeOut_101 : decode cX2_takeOut 101 = .ok (.getfield 9, 3) := by decide +kernel
theorem dX2_takeOut_104 : decode cX2_takeOut 104 = .ok (.iconst 1, 1) := by decide +kernel
theorem dX2_takeOut_105 : decode cX2_takeOut 105 = .ok (.isub, 1) := by decide +kernel
theorem dX2_takeOut_106 : decode cX2_takeOut 106 = .ok (.putfield 9, 3) := by decide +kernel
theorem dX2_takeOut_109 : decode cX2_takeOut 109 = .ok (.iload_n 2, 1) := by decide +kernel
theorem dX2_takeOut_110 : decode cX2_takeOut 110 = .ok (.ireturn, 1) := by decide +kernel
set_option maxRecDepth 20000 in
theorem ggX2_bookPages_X2_ok : GoodIn wsX2_bookPages wsX2_ok := goodIn_r _ [6, 7, 8, 9, 10, 11, 12, 13] (by decide +kernel) (by decide +kernel)
set_option maxRecDepth 20000 in
theorem gX2_bookPages_X2_ok : GoodIn wsX2_bookPages (wsV RX2 95 RX2 yX2_ok wsX2_ok) := goodIn_app (goodIn_of _ (by decide +kernel)) ggX2_bookPages_X2_ok
theorem dX2_bookPages_0 : decode cX2_bookPages 0 = .ok (.aload_n 0, 1) := by decide +kernel
theorem dX2_bookPages_1 : decode cX2_bookPages 1 = .ok (.aload_n 0, 1) := by decide +kernel
theorem dX2_bookPages_2 : decode cX2_bookPages 2 = .ok (.getfield 9, 3) := by decide +kernel
theorem dX2_bookPages_5 : decode cX2_bookPages 5 = .ok (.invokevirtual 95, 3) := by decide +kernel
theorem dX2_bookPages_8 : decode cX2_bookPages 8 = .ok (.ireturn, 1) := by decide +kernel
set_option maxRecDepth 20000 in
theorem ggX2_headings_X2_ok : GoodIn wsX2_headings wsX2_ok := goodIn_r _ [6, 7, 8, 9, 10, 11, 12, 13] (by decide +kernel) (by decide +kernel)
set_option maxRecDepth 20000 in
theorem gX2_headings_X2_ok : GoodIn wsX2_headings (wsV RX2 95 RX2 yX2_ok wsX2_ok) := goodIn_app (goodIn_of _ (by decide +kernel)) ggX2_headings_X2_ok
theorem dX2_headings_0 : decode cX2_headings 0 = .ok (.aload_n 0, 1) := by decide +kernel
theorem dX2_headings_1 : decode cX2_headings 1 = .ok (.aload_n 0, 1) := by decide +kernel
theorem dX2_headings_2 : decode cX2_headings 2 = .ok (.getfield 27, 3) := by decide +kernel
theorem dX2_headings_5 : decode cX2_headings 5 = .ok (.invokevirtual 95, 3) := by decide +kernel
theorem dX2_headings_8 : decode cX2_headings 8 = .ok (.ireturn, 1) := by decide +kernel
set_option maxRecDepth 20000 in
theorem ggX2_spansOf_X2_isHeading : GoodIn wsX2_spansOf wsX2_isHeading := goodIn_r _ [6, 7, 8, 9, 5, 10, 25, 26, 27, 28, 29, 30] (by decide +kernel) (by decide +kernel)
set_option maxRecDepth 20000 in
theorem gX2_spansOf_X2_isHeading : GoodIn wsX2_spansOf (wsV RX2 73 RX2 yX2_isHeading wsX2_isHeading) := goodIn_app (goodIn_of _ (by decide +kernel)) ggX2_spansOf_X2_isHeading
set_option maxRecDepth 20000 in
theorem ggX2_spansOf_X2_spans : GoodIn wsX2_spansOf wsX2_spans := goodIn_r _ [14, 15, 16, 17, 18, 5, 19, 20, 25, 26, 27, 28, 29, 30] (by decide +kernel) (by decide +kernel)
set_option maxRecDepth 20000 in
theorem gX2_spansOf_X2_spans : GoodIn wsX2_spansOf (wsV RX2 88 RX2 yX2_spans wsX2_spans) := goodIn_app (goodIn_of _ (by decide +kernel)) ggX2_spansOf_X2_spans
set_option maxRecDepth 20000 in
theorem ggX2_spansOf_X2_no : GoodIn wsX2_spansOf wsX2_no := goodIn_r _ [24, 1, 25, 26, 27, 28, 29, 30] (by decide +kernel) (by decide +kernel)
set_option maxRecDepth 20000 in
theorem gX2_spansOf_X2_no : GoodIn wsX2_spansOf (wsV RX2 66 RX2 yX2_no wsX2_no) := goodIn_app (goodIn_of _ (by decide +kernel)) ggX2_spansOf_X2_no
theorem dX2_spansOf_0 : decode cX2_spansOf 0 = .ok (.aload_n 0, 1) := by decide +kernel
theorem dX2_spansOf_1 : decode cX2_spansOf 1 = .ok (.iconst 0, 1) := by decide +kernel
theorem dX2_spansOf_2 : decode cX2_spansOf 2 = .ok (.putfield 24, 3) := by decide +kernel
theorem dX2_spansOf_5 : decode cX2_spansOf 5 = .ok (.aload_n 0, 1) := by decide +kernel
theorem dX2_spansOf_6 : decode cX2_spansOf 6 = .ok (.iload_n 1, 1) := by decide +kernel
theorem dX2_spansOf_7 : decode cX2_spansOf 7 = .ok (.invokevirtual 73, 3) := by decide +kernel
theorem dX2_spansOf_10 : decode cX2_spansOf 10 = .ok (.ifCond .eq 13, 3) := by decide +kernel
theorem dX2_spansOf_13 : decode cX2_spansOf 13 = .ok (.aload_n 0, 1) := by decide +kernel
theorem dX2_spansOf_14 : decode cX2_spansOf 14 = .ok (.iload_n 1, 1) := by decide +kernel
theorem dX2_spansOf_15 : decode cX2_spansOf 15 = .ok (.iload_n 1, 1) := by decide +kernel
theorem dX2_spansOf_16 : decode cX2_spansOf 16 = .ok (.iconst 0, 1) := by decide +kernel
theorem dX2_spansOf_17 : decode cX2_spansOf 17 = .ok (.invokevirtual 88, 3) := by decide +kernel
theorem dX2_spansOf_20 : decode cX2_spansOf 20 = .ok (.goto 8, 3) := by decide +kernel
theorem dX2_spansOf_23 : decode cX2_spansOf 23 = .ok (.aload_n 0, 1) := by decide +kernel
theorem dX2_spansOf_24 : decode cX2_spansOf 24 = .ok (.iconst 1, 1) := by decide +kernel
theorem dX2_spansOf_25 : decode cX2_spansOf 25 = .ok (.invokevirtual 66, 3) := by decide +kernel
theorem dX2_spansOf_28 : decode cX2_spansOf 28 = .ok (.ireturn, 1) := by decide +kernel
set_option maxRecDepth 20000 in
theorem ggX2_isSpan_X2_isHeading : GoodIn wsX2_isSpan wsX2_isHeading := goodIn_r _ [5, 6, 7, 8, 4, 9, 20, 21, 22, 23, 24, 25] (by decide +kernel) (by decide +kernel)
set_option maxRecDepth 20000 in
theorem gX2_isSpan_X2_isHeading : GoodIn wsX2_isSpan (wsV RX2 73 RX2 yX2_isHeading wsX2_isHeading) := goodIn_app (goodIn_of _ (by decide +kernel)) ggX2_isSpan_X2_isHeading
set_option maxRecDepth 20000 in
theorem ggX2_isSpan_X2_spans : GoodIn wsX2_isSpan wsX2_spans := goodIn_r _ [13, 14, 15, 16, 17, 4, 18, 19, 20, 21, 22, 23, 24, 25] (by decide +kernel) (by decide +kernel)
set_option maxRecDepth 20000 in
theorem gX2_isSpan_X2_spans : GoodIn wsX2_isSpan (wsV RX2 88 RX2 yX2_spans wsX2_spans) := goodIn_app (goodIn_of _ (by decide +kernel)) ggX2_isSpan_X2_spans
set_option maxRecDepth 20000 in
theorem ggX2_isSpan_X2_isIn : GoodIn wsX2_isSpan wsX2_isIn := goodIn_r _ [9] (by decide +kernel) (by decide +kernel)
set_option maxRecDepth 20000 in
theorem gX2_isSpan_X2_isIn : GoodIn wsX2_isSpan (va_wsS RX2 30 yX2_isIn wsX2_isIn) := goodIn_app (goodIn_of _ (by decide +kernel)) ggX2_isSpan_X2_isIn
theorem dX2_isSpan_0 : decode cX2_isSpan 0 = .ok (.aload_n 0, 1) := by decide +kernel
theorem dX2_isSpan_1 : decode cX2_isSpan 1 = .ok (.iload_n 1, 1) := by decide +kernel
theorem dX2_isSpan_2 : decode cX2_isSpan 2 = .ok (.invokevirtual 73, 3) := by decide +kernel
theorem dX2_isSpan_5 : decode cX2_isSpan 5 = .ok (.ifCond .eq 24, 3) := by decide +kernel
theorem dX2_isSpan_8 : decode cX2_isSpan 8 = .ok (.iload_n 2, 1) := by decide +kernel
theorem dX2_isSpan_9 : decode cX2_isSpan 9 = .ok (.iconst 0, 1) := by decide +kernel
theorem dX2_isSpan_10 : decode cX2_isSpan 10 = .ok (.aload_n 0, 1) := by decide +kernel
theorem dX2_isSpan_11 : decode cX2_isSpan 11 = .ok (.iload_n 1, 1) := by decide +kernel
theorem dX2_isSpan_12 : decode cX2_isSpan 12 = .ok (.iload_n 1, 1) := by decide +kernel
theorem dX2_isSpan_13 : decode cX2_isSpan 13 = .ok (.iconst 0, 1) := by decide +kernel
theorem dX2_isSpan_14 : decode cX2_isSpan 14 = .ok (.invokevirtual 88, 3) := by decide +kernel
theorem dX2_isSpan_17 : decode cX2_isSpan 17 = .ok (.iconst 1, 1) := by decide +kernel
theorem dX2_isSpan_18 : decode cX2_isSpan 18 = .ok (.isub, 1) := by decide +kernel
theorem dX2_isSpan_19 : decode cX2_isSpan 19 = .ok (.invokestatic 30, 3) := by decide +kernel
theorem dX2_isSpan_22 : decode cX2_isSpan 22 = .ok (.ifCond .eq 7, 3) := by decide +kernel
theorem dX2_isSpan_25 : decode cX2_isSpan 25 = .ok (.iconst 1, 1) := by decide +kernel
theorem dX2_isSpan_26 : decode cX2_isSpan 26 = .ok (.goto 4, 3) := by decide +kernel
theorem dX2_isSpan_29 : decode cX2_isSpan 29 = .ok (.iconst 0, 1) := by decide +kernel
theorem dX2_isSpan_30 : decode cX2_isSpan 30 = .ok (.ireturn, 1) := by decide +kernel
set_option maxRecDepth 20000 in
theorem ggX2_startOf_X2_isSpan : GoodIn wsX2_startOf wsX2_isSpan := goodIn_r _ [6, 7, 8, 9, 5, 10, 11, 12, 13, 14, 15, 16, 17, 18, 19, 20, 21, 22, 23, 24, 33, 34, 35, 36, 37, 38] (by decide +kernel) (by decide +kernel)
set_option maxRecDepth 20000 in
theorem gX2_startOf_X2_isSpan : GoodIn wsX2_startOf (wsV RX2 98 RX2 yX2_isSpan wsX2_isSpan) := goodIn_app (goodIn_of _ (by decide +kernel)) ggX2_startOf_X2_isSpan
set_option maxRecDepth 20000 in
theorem ggX2_startOf_X2_begins : GoodIn wsX2_startOf wsX2_begins := goodIn_r _ [28, 20, 21, 22, 5, 23, 24, 33, 34, 35, 36, 37, 38] (by decide +kernel) (by decide +kernel)
set_option maxRecDepth 20000 in
theorem gX2_startOf_X2_begins : GoodIn wsX2_startOf (wsV RX2 38 RX2 yX2_begins wsX2_begins) := goodIn_app (goodIn_of _ (by decide +kernel)) ggX2_startOf_X2_begins
set_option maxRecDepth 20000 in
theorem ggX2_startOf_X2_no : GoodIn wsX2_startOf wsX2_no := goodIn_r _ [32, 1, 33, 34, 35, 36, 37, 38] (by decide +kernel) (by decide +kernel)
set_option maxRecDepth 20000 in
theorem gX2_startOf_X2_no : GoodIn wsX2_startOf (wsV RX2 66 RX2 yX2_no wsX2_no) := goodIn_app (goodIn_of _ (by decide +kernel)) ggX2_startOf_X2_no
theorem dX2_startOf_0 : decode cX2_startOf 0 = .ok (.aload_n 0, 1) := by decide +kernel
theorem dX2_startOf_1 : decode cX2_startOf 1 = .ok (.iconst 0, 1) := by decide +kernel
theorem dX2_startOf_2 : decode cX2_startOf 2 = .ok (.putfield 24, 3) := by decide +kernel
theorem dX2_startOf_5 : decode cX2_startOf 5 = .ok (.aload_n 0, 1) := by decide +kernel
theorem dX2_startOf_6 : decode cX2_startOf 6 = .ok (.iload_n 1, 1) := by decide +kernel
theorem dX2_startOf_7 : decode cX2_startOf 7 = .ok (.iload_n 2, 1) := by decide +kernel
theorem dX2_startOf_8 : decode cX2_startOf 8 = .ok (.invokevirtual 98, 3) := by decide +kernel
theorem dX2_startOf_11 : decode cX2_startOf 11 = .ok (.ifCond .eq 12, 3) := by decide +kernel
theorem dX2_startOf_14 : decode cX2_startOf 14 = .ok (.aload_n 0, 1) := by decide +kernel
theorem dX2_startOf_15 : decode cX2_startOf 15 = .ok (.iload_n 1, 1) := by decide +kernel
theorem dX2_startOf_16 : decode cX2_startOf 16 = .ok (.iload_n 2, 1) := by decide +kernel
theorem dX2_startOf_17 : decode cX2_startOf 17 = .ok (.invokevirtual 38, 3) := by decide +kernel
theorem dX2_startOf_20 : decode cX2_startOf 20 = .ok (.goto 8, 3) := by decide +kernel
theorem dX2_startOf_23 : decode cX2_startOf 23 = .ok (.aload_n 0, 1) := by decide +kernel
theorem dX2_startOf_24 : decode cX2_startOf 24 = .ok (.iconst 1, 1) := by decide +kernel
theorem dX2_startOf_25 : decode cX2_startOf 25 = .ok (.invokevirtual 66, 3) := by decide +kernel
theorem dX2_startOf_28 : decode cX2_startOf 28 = .ok (.ireturn, 1) := by decide +kernel
set_option maxRecDepth 20000 in
theorem ggX2_endOf_X2_isSpan : GoodIn wsX2_endOf wsX2_isSpan := goodIn_r _ [6, 7, 8, 9, 5, 10, 11, 12, 13, 14, 15, 16, 17, 18, 19, 20, 21, 22, 23, 24, 37, 38, 39, 40, 41, 42] (by decide +kernel) (by decide +kernel)
set_option maxRecDepth 20000 in
theorem gX2_endOf_X2_isSpan : GoodIn wsX2_endOf (wsV RX2 98 RX2 yX2_isSpan wsX2_isSpan) := goodIn_app (goodIn_of _ (by decide +kernel)) ggX2_endOf_X2_isSpan
set_option maxRecDepth 20000 in
theorem ggX2_endOf_X2_ends : GoodIn wsX2_endOf wsX2_ends := goodIn_r _ [28, 29, 30, 31, 5, 32, 20, 21, 22, 23, 24, 37, 38, 39, 40, 41, 42] (by decide +kernel) (by decide +kernel)
set_option maxRecDepth 20000 in
theorem gX2_endOf_X2_ends : GoodIn wsX2_endOf (wsV RX2 101 RX2 yX2_ends wsX2_ends) := goodIn_app (goodIn_of _ (by decide +kernel)) ggX2_endOf_X2_ends
set_option maxRecDepth 20000 in
theorem ggX2_endOf_X2_no : GoodIn wsX2_endOf wsX2_no := goodIn_r _ [36, 1, 37, 38, 39, 40, 41, 42] (by decide +kernel) (by decide +kernel)
set_option maxRecDepth 20000 in
theorem gX2_endOf_X2_no : GoodIn wsX2_endOf (wsV RX2 66 RX2 yX2_no wsX2_no) := goodIn_app (goodIn_of _ (by decide +kernel)) ggX2_endOf_X2_no
theorem dX2_endOf_0 : decode cX2_endOf 0 = .ok (.aload_n 0, 1) := by decide +kernel
theorem dX2_endOf_1 : decode cX2_endOf 1 = .ok (.iconst 0, 1) := by decide +kernel
theorem dX2_endOf_2 : decode cX2_endOf 2 = .ok (.putfield 24, 3) := by decide +kernel
theorem dX2_endOf_5 : decode cX2_endOf 5 = .ok (.aload_n 0, 1) := by decide +kernel
theorem dX2_endOf_6 : decode cX2_endOf 6 = .ok (.iload_n 1, 1) := by decide +kernel
theorem dX2_endOf_7 : decode cX2_endOf 7 = .ok (.iload_n 2, 1) := by decide +kernel
theorem dX2_endOf_8 : decode cX2_endOf 8 = .ok (.invokevirtual 98, 3) := by decide +kernel
theorem dX2_endOf_11 : decode cX2_endOf 11 = .ok (.ifCond .eq 12, 3) := by decide +kernel
theorem dX2_endOf_14 : decode cX2_endOf 14 = .ok (.aload_n 0, 1) := by decide +kernel
theorem dX2_endOf_15 : decode cX2_endOf 15 = .ok (.iload_n 1, 1) := by decide +kernel
theorem dX2_endOf_16 : decode cX2_endOf 16 = .ok (.iload_n 2, 1) := by decide +kernel
theorem dX2_endOf_17 : decode cX2_endOf 17 = .ok (.invokevirtual 101, 3) := by decide +kernel
theorem dX2_endOf_20 : decode cX2_endOf 20 = .ok (.goto 8, 3) := by decide +kernel
theorem dX2_endOf_23 : decode cX2_endOf 23 = .ok (.aload_n 0, 1) := by decide +kernel
theorem dX2_endOf_24 : decode cX2_endOf 24 = .ok (.iconst 1, 1) := by decide +kernel
theorem dX2_endOf_25 : decode cX2_endOf 25 = .ok (.invokevirtual 66, 3) := by decide +kernel
theorem dX2_endOf_28 : decode cX2_endOf 28 = .ok (.ireturn, 1) := by decide +kernel
set_option maxRecDepth 20000 in
theorem ggX2_pagesOf_X2_isHeading : GoodIn wsX2_pagesOf wsX2_isHeading := goodIn_r _ [6, 7, 8, 9, 5, 10, 25, 26, 27, 28, 29, 30] (by decide +kernel) (by decide +kernel)
set_option maxRecDepth 20000 in
theorem gX2_pagesOf_X2_isHeading : GoodIn wsX2_pagesOf (wsV RX2 73 RX2 yX2_isHeading wsX2_isHeading) := goodIn_app (goodIn_of _ (by decide +kernel)) ggX2_pagesOf_X2_isHeading
set_option maxRecDepth 20000 in
theorem ggX2_pagesOf_X2_many : GoodIn wsX2_pagesOf wsX2_many := goodIn_r _ [14, 15, 16, 17, 18, 5, 19, 20, 25, 26, 27, 28, 29, 30] (by decide +kernel) (by decide +kernel)
set_option maxRecDepth 20000 in
theorem gX2_pagesOf_X2_many : GoodIn wsX2_pagesOf (wsV RX2 52 RX2 yX2_many wsX2_many) := goodIn_app (goodIn_of _ (by decide +kernel)) ggX2_pagesOf_X2_many
set_option maxRecDepth 20000 in
theorem ggX2_pagesOf_X2_no : GoodIn wsX2_pagesOf wsX2_no := goodIn_r _ [24, 1, 25, 26, 27, 28, 29, 30] (by decide +kernel) (by decide +kernel)
set_option maxRecDepth 20000 in
theorem gX2_pagesOf_X2_no : GoodIn wsX2_pagesOf (wsV RX2 66 RX2 yX2_no wsX2_no) := goodIn_app (goodIn_of _ (by decide +kernel)) ggX2_pagesOf_X2_no
theorem dX2_pagesOf_0 : decode cX2_pagesOf 0 = .ok (.aload_n 0, 1) := by decide +kernel
theorem dX2_pagesOf_1 : decode cX2_pagesOf 1 = .ok (.iconst 0, 1) := by decide +kernel
theorem dX2_pagesOf_2 : decode cX2_pagesOf 2 = .ok (.putfield 24, 3) := by decide +kernel
theorem dX2_pagesOf_5 : decode cX2_pagesOf 5 = .ok (.aload_n 0, 1) := by decide +kernel
theorem dX2_pagesOf_6 : decode cX2_pagesOf 6 = .ok (.iload_n 1, 1) := by decide +kernel
theorem dX2_pagesOf_7 : decode cX2_pagesOf 7 = .ok (.invokevirtual 73, 3) := by decide +kernel
theorem dX2_pagesOf_10 : decode cX2_pagesOf 10 = .ok (.ifCond .eq 11, 3) := by decide +kernel
theorem dX2_pagesOf_13 : decode cX2_pagesOf 13 = .ok (.aload_n 0, 1) := by decide +kernel
theorem dX2_pagesOf_14 : decode cX2_pagesOf 14 = .ok (.iload_n 1, 1) := by decide +kernel
theorem dX2_pagesOf_15 : decode cX2_pagesOf 15 = .ok (.invokevirtual 52, 3) := by decide +kernel
theorem dX2_pagesOf_18 : decode cX2_pagesOf 18 = .ok (.goto 8, 3) := by decide +kernel
theorem dX2_pagesOf_21 : decode cX2_pagesOf 21 = .ok (.aload_n 0, 1) := by decide +kernel
theorem dX2_pagesOf_22 : decode cX2_pagesOf 22 = .ok (.iconst 1, 1) := by decide +kernel
theorem dX2_pagesOf_23 : decode cX2_pagesOf 23 = .ok (.invokevirtual 66, 3) := by decide +kernel
theorem dX2_pagesOf_26 : decode cX2_pagesOf 26 = .ok (.ireturn, 1) := by decide +kernel
set_option maxRecDepth 20000 in
theorem ggX2_seeOf_X2_isHeading : GoodIn wsX2_seeOf wsX2_isHeading := goodIn_r _ [7, 8, 9, 10, 6, 11, 16, 17, 18, 19, 20, 21] (by decide +kernel) (by decide +kernel)
set_option maxRecDepth 20000 in
theorem gX2_seeOf_X2_isHeading : GoodIn wsX2_seeOf (wsV RX2 73 RX2 yX2_isHeading wsX2_isHeading) := goodIn_app (goodIn_of _ (by decide +kernel)) ggX2_seeOf_X2_isHeading
set_option maxRecDepth 20000 in
theorem ggX2_seeOf_X2_no : GoodIn wsX2_seeOf wsX2_no := goodIn_r _ [15, 1, 16, 17, 18, 19, 20, 21] (by decide +kernel) (by decide +kernel)
set_option maxRecDepth 20000 in
theorem gX2_seeOf_X2_no : GoodIn wsX2_seeOf (wsV RX2 66 RX2 yX2_no wsX2_no) := goodIn_app (goodIn_of _ (by decide +kernel)) ggX2_seeOf_X2_no
theorem dX2_seeOf_0 : decode cX2_seeOf 0 = .ok (.aload_n 0, 1) := by decide +kernel
theorem dX2_seeOf_1 : decode cX2_seeOf 1 = .ok (.iconst 0, 1) := by decide +kernel
theorem dX2_seeOf_2 : decode cX2_seeOf 2 = .ok (.putfield 24, 3) := by decide +kernel
theorem dX2_seeOf_5 : decode cX2_seeOf 5 = .ok (.aload_n 0, 1) := by decide +kernel
theorem dX2_seeOf_6 : decode cX2_seeOf 6 = .ok (.iload_n 1, 1) := by decide +kernel
theorem dX2_seeOf_7 : decode cX2_seeOf 7 = .ok (.invokevirtual 73, 3) := by decide +kernel
theorem dX2_seeOf_10 : decode cX2_seeOf 10 = .ok (.ifCond .eq 12, 3) := by decide +kernel
theorem dX2_seeOf_13 : decode cX2_seeOf 13 = .ok (.aload_n 0, 1) := by decide +kernel
theorem dX2_seeOf_14 : decode cX2_seeOf 14 = .ok (.getfield 17, 3) := by decide +kernel
theorem dX2_seeOf_17 : decode cX2_seeOf 17 = .ok (.iload_n 1, 1) := by decide +kernel
theorem dX2_seeOf_18 : decode cX2_seeOf 18 = .ok (.iaload, 1) := by decide +kernel
theorem dX2_seeOf_19 : decode cX2_seeOf 19 = .ok (.goto 8, 3) := by decide +kernel
theorem dX2_seeOf_22 : decode cX2_seeOf 22 = .ok (.aload_n 0, 1) := by decide +kernel
theorem dX2_seeOf_23 : decode cX2_seeOf 23 = .ok (.iconst 1, 1) := by decide +kernel
theorem dX2_seeOf_24 : decode cX2_seeOf 24 = .ok (.invokevirtual 66, 3) := by decide +kernel
theorem dX2_seeOf_27 : decode cX2_seeOf 27 = .ok (.ireturn, 1) := by decide +kernel
set_option maxRecDepth 20000 in
theorem ggX2_seeAlsosOf_X2_isHeading : GoodIn wsX2_seeAlsosOf wsX2_isHeading := goodIn_r _ [7, 8, 9, 10, 6, 11, 23, 24, 25, 26, 27, 28] (by decide +kernel) (by decide +kernel)
set_option maxRecDepth 20000 in
theorem gX2_seeAlsosOf_X2_isHeading : GoodIn wsX2_seeAlsosOf (wsV RX2 73 RX2 yX2_isHeading wsX2_isHeading) := goodIn_app (goodIn_of _ (by decide +kernel)) ggX2_seeAlsosOf_X2_isHeading
set_option maxRecDepth 20000 in
theorem ggX2_seeAlsosOf_J6_bitCount_0f7a4 : GoodIn wsX2_seeAlsosOf wsJ6_bitCount_0f7a4 := goodIn_r _ [15, 16, 17, 18] (by decide +kernel) (by decide +kernel)
set_option maxRecDepth 20000 in
theorem gX2_seeAlsosOf_J6_bitCount_0f7a4 : GoodIn wsX2_seeAlsosOf (va_wsS RX2 61 yJ6_bitCount_0f7a4 wsJ6_bitCount_0f7a4) := goodIn_app (goodIn_of _ (by decide +kernel)) ggX2_seeAlsosOf_J6_bitCount_0f7a4
set_option maxRecDepth 20000 in
theorem ggX2_seeAlsosOf_X2_no : GoodIn wsX2_seeAlsosOf wsX2_no := goodIn_r _ [22, 1, 23, 24, 25, 26, 27, 28] (by decide +kernel) (by decide +kernel)
set_option maxRecDepth 20000 in
theorem gX2_seeAlsosOf_X2_no : GoodIn wsX2_seeAlsosOf (wsV RX2 66 RX2 yX2_no wsX2_no) := goodIn_app (goodIn_of _ (by decide +kernel)) ggX2_seeAlsosOf_X2_no
theorem dX2_seeAlsosOf_0 : decode cX2_seeAlsosOf 0 = .ok (.aload_n 0, 1) := by decide +kernel
theorem dX2_seeAlsosOf_1 : decode cX2_seeAlsosOf 1 = .ok (.iconst 0, 1) := by decide +kernel
theorem dX2_seeAlsosOf_2 : decode cX2_seeAlsosOf 2 = .ok (.putfield 24, 3) := by decide +kernel
theorem dX2_seeAlsosOf_5 : decode cX2_seeAlsosOf 5 = .ok (.aload_n 0, 1) := by decide +kernel
theorem dX2_seeAlsosOf_6 : decode cX2_seeAlsosOf 6 = .ok (.iload_n 1, 1) := by decide +kernel
theorem dX2_seeAlsosOf_7 : decode cX2_seeAlsosOf 7 = .ok (.invokevirtual 73, 3) := by decide +kernel
theorem dX2_seeAlsosOf_10 : decode cX2_seeAlsosOf 10 = .ok (.ifCond .eq 15, 3) := by decide +kernel
theorem dX2_seeAlsosOf_13 : decode cX2_seeAlsosOf 13 = .ok (.aload_n 0, 1) := by decide +kernel
theorem dX2_seeAlsosOf_14 : decode cX2_seeAlsosOf 14 = .ok (.getfield 21, 3) := by decide +kernel
theorem dX2_seeAlsosOf_17 : decode cX2_seeAlsosOf 17 = .ok (.iload_n 1, 1) := by decide +kernel
theorem dX2_seeAlsosOf_18 : decode cX2_seeAlsosOf 18 = .ok (.iaload, 1) := by decide +kernel
theorem dX2_seeAlsosOf_19 : decode cX2_seeAlsosOf 19 = .ok (.invokestatic 61, 3) := by decide +kernel
theorem dX2_seeAlsosOf_22 : decode cX2_seeAlsosOf 22 = .ok (.goto 8, 3) := by decide +kernel
theorem dX2_seeAlsosOf_25 : decode cX2_seeAlsosOf 25 = .ok (.aload_n 0, 1) := by decide +kernel
theorem dX2_seeAlsosOf_26 : decode cX2_seeAlsosOf 26 = .ok (.iconst 1, 1) := by decide +kernel
theorem dX2_seeAlsosOf_27 : decode cX2_seeAlsosOf 27 = .ok (.invokevirtual 66, 3) := by decide +kernel
theorem dX2_seeAlsosOf_30 : decode cX2_seeAlsosOf 30 = .ok (.ireturn, 1) := by decide +kernel
set_option maxRecDepth 20000 in
theorem ggX2_isOn_X2_isHeading : GoodIn wsX2_isOn wsX2_isHeading := goodIn_r _ [6, 7, 8, 9, 5, 10, 25, 26, 27, 28, 29, 30] (by decide +kernel) (by decide +kernel)
set_option maxRecDepth 20000 in
theorem gX2_isOn_X2_isHeading : GoodIn wsX2_isOn (wsV RX2 73 RX2 yX2_isHeading wsX2_isHeading) := goodIn_app (goodIn_of _ (by decide +kernel)) ggX2_isOn_X2_isHeading
set_option maxRecDepth 20000 in
theorem ggX2_isOn_X2_isNot : GoodIn wsX2_isOn wsX2_isNot := goodIn_r _ [14, 1, 25, 26, 27, 28, 29, 30] (by decide +kernel) (by decide +kernel)
set_option maxRecDepth 20000 in
theorem gX2_isOn_X2_isNot : GoodIn wsX2_isOn (wsV RX2 104 RX2 yX2_isNot wsX2_isNot) := goodIn_app (goodIn_of _ (by decide +kernel)) ggX2_isOn_X2_isNot
set_option maxRecDepth 20000 in
theorem ggX2_isOn_X2_isPage : GoodIn wsX2_isOn wsX2_isPage := goodIn_r _ [18, 19, 8, 9, 5, 10, 25, 26, 27, 28, 29, 30] (by decide +kernel) (by decide +kernel)
set_option maxRecDepth 20000 in
theorem gX2_isOn_X2_isPage : GoodIn wsX2_isOn (wsV RX2 92 RX2 yX2_isPage wsX2_isPage) := goodIn_app (goodIn_of _ (by decide +kernel)) ggX2_isOn_X2_isPage
set_option maxRecDepth 20000 in
theorem ggX2_isOn_X2_has : GoodIn wsX2_isOn wsX2_has := goodIn_r _ [23, 24, 25, 26, 27, 28, 29, 30] (by decide +kernel) (by decide +kernel)
set_option maxRecDepth 20000 in
theorem gX2_isOn_X2_has : GoodIn wsX2_isOn (wsV RX2 34 RX2 yX2_has wsX2_has) := goodIn_app (goodIn_of _ (by decide +kernel)) ggX2_isOn_X2_has
theorem dX2_isOn_0 : decode cX2_isOn 0 = .ok (.aload_n 0, 1) := by decide +kernel
theorem dX2_isOn_1 : decode cX2_isOn 1 = .ok (.iconst 0, 1) := by decide +kernel
theorem dX2_isOn_2 : decode cX2_isOn 2 = .ok (.putfield 24, 3) := by decide +kernel
theorem dX2_isOn_5 : decode cX2_isOn 5 = .ok (.aload_n 0, 1) := by decide +kernel
theorem dX2_isOn_6 : decode cX2_isOn 6 = .ok (.iload_n 1, 1) := by decide +kernel
theorem dX2_isOn_7 : decode cX2_isOn 7 = .ok (.invokevirtual 73, 3) := by decide +kernel
theorem dX2_isOn_10 : decode cX2_isOn 10 = .ok (.ifCond .ne 9, 3) := by decide +kernel
theorem dX2_isOn_13 : decode cX2_isOn 13 = .ok (.aload_n 0, 1) := by decide +kernel
theorem dX2_isOn_14 : decode cX2_isOn 14 = .ok (.iconst 1, 1) := by decide +kernel
theorem dX2_isOn_15 : decode cX2_isOn 15 = .ok (.invokevirtual 104, 3) := by decide +kernel
theorem dX2_isOn_18 : decode cX2_isOn 18 = .ok (.ireturn, 1) := by decide +kernel
theorem dX2_isOn_19 : decode cX2_isOn 19 = .ok (.aload_n 0, 1) := by decide +kernel
theorem dX2_isOn_20 : decode cX2_isOn 20 = .ok (.iload_n 2, 1) := by decide +kernel
theorem dX2_isOn_21 : decode cX2_isOn 21 = .ok (.invokevirtual 92, 3) := by decide +kernel
theorem dX2_isOn_24 : decode cX2_isOn 24 = .ok (.ifCond .eq 12, 3) := by decide +kernel
theorem dX2_isOn_27 : decode cX2_isOn 27 = .ok (.aload_n 0, 1) := by decide +kernel
theorem dX2_isOn_28 : decode cX2_isOn 28 = .ok (.iload_n 1, 1) := by decide +kernel
theorem dX2_isOn_29 : decode cX2_isOn 29 = .ok (.iload_n 2, 1) := by decide +kernel
theorem dX2_isOn_30 : decode cX2_isOn 30 = .ok (.invokevirtual 34, 3) := by decide +kernel
theorem dX2_isOn_33 : decode cX2_isOn 33 = .ok (.goto 8, 3) := by decide +kernel
theorem dX2_isOn_36 : decode cX2_isOn 36 = .ok (.aload_n 0, 1) := by decide +kernel
theorem dX2_isOn_37 : decode cX2_isOn 37 = .ok (.iconst 2, 1) := by decide +kernel
theorem dX2_isOn_38 : decode cX2_isOn 38 = .ok (.invokevirtual 104, 3) := by decide +kernel
theorem dX2_isOn_41 : decode cX2_isOn 41 = .ok (.ireturn, 1) := by decide +kernel
set_option maxRecDepth 20000 in
theorem ggX2_headingsOn_X2_isPage : GoodIn wsX2_headingsOn wsX2_isPage := goodIn_r _ [6, 7, 8, 9, 5, 10, 25, 26, 27, 28, 29, 30] (by decide +kernel) (by decide +kernel)
set_option maxRecDepth 20000 in
theorem gX2_headingsOn_X2_isPage : GoodIn wsX2_headingsOn (wsV RX2 92 RX2 yX2_isPage wsX2_isPage) := goodIn_app (goodIn_of _ (by decide +kernel)) ggX2_headingsOn_X2_isPage
set_option maxRecDepth 20000 in
theorem ggX2_headingsOn_X2_onPage : GoodIn wsX2_headingsOn wsX2_onPage := goodIn_r _ [14, 15, 16, 17, 18, 5, 19, 20, 25, 26, 27, 28, 29, 30] (by decide +kernel) (by decide +kernel)
set_option maxRecDepth 20000 in
theorem gX2_headingsOn_X2_onPage : GoodIn wsX2_headingsOn (wsV RX2 45 RX2 yX2_onPage wsX2_onPage) := goodIn_app (goodIn_of _ (by decide +kernel)) ggX2_headingsOn_X2_onPage
set_option maxRecDepth 20000 in
theorem ggX2_headingsOn_X2_no : GoodIn wsX2_headingsOn wsX2_no := goodIn_r _ [24, 1, 25, 26, 27, 28, 29, 30] (by decide +kernel) (by decide +kernel)
set_option maxRecDepth 20000 in
theorem gX2_headingsOn_X2_no : GoodIn wsX2_headingsOn (wsV RX2 66 RX2 yX2_no wsX2_no) := goodIn_app (goodIn_of _ (by decide +kernel)) ggX2_headingsOn_X2_no
theorem dX2_headingsOn_0 : decode cX2_headingsOn 0 = .ok (.aload_n 0, 1) := by decide +kernel
theorem dX2_headingsOn_1 : decode cX2_headingsOn 1 = .ok (.iconst 0, 1) := by decide +kernel
theorem dX2_headingsOn_2 : decode cX2_headingsOn 2 = .ok (.putfield 24, 3) := by decide +kernel
theorem dX2_headingsOn_5 : decode cX2_headingsOn 5 = .ok (.aload_n 0, 1) := by decide +kernel
theorem dX2_headingsOn_6 : decode cX2_headingsOn 6 = .ok (.iload_n 1, 1) := by decide +kernel
theorem dX2_headingsOn_7 : decode cX2_headingsOn 7 = .ok (.invokevirtual 92, 3) := by decide +kernel
theorem dX2_headingsOn_10 : decode cX2_headingsOn 10 = .ok (.ifCond .eq 11, 3) := by decide +kernel
theorem dX2_headingsOn_13 : decode cX2_headingsOn 13 = .ok (.aload_n 0, 1) := by decide +kernel
theorem dX2_headingsOn_14 : decode cX2_headingsOn 14 = .ok (.iload_n 1, 1) := by decide +kernel
theorem dX2_headingsOn_15 : decode cX2_headingsOn 15 = .ok (.invokevirtual 45, 3) := by decide +kernel
theorem dX2_headingsOn_18 : decode cX2_headingsOn 18 = .ok (.goto 8, 3) := by decide +kernel
theorem dX2_headingsOn_21 : decode cX2_headingsOn 21 = .ok (.aload_n 0, 1) := by decide +kernel
theorem dX2_headingsOn_22 : decode cX2_headingsOn 22 = .ok (.iconst 1, 1) := by decide +kernel
theorem dX2_headingsOn_23 : decode cX2_headingsOn 23 = .ok (.invokevirtual 66, 3) := by decide +kernel
theorem dX2_headingsOn_26 : decode cX2_headingsOn 26 = .ok (.ireturn, 1) := by decide +kernel
set_option maxRecDepth 20000 in
theorem ggX2_barePages_X2_bare : GoodIn wsX2_barePages wsX2_bare := goodIn_r _ [5, 6, 7, 8, 9, 4, 10, 11, 12, 13, 14, 15, 16, 22, 23, 24, 25, 26, 27] (by decide +kernel) (by decide +kernel)
set_option maxRecDepth 20000 in
theorem gX2_barePages_X2_bare : GoodIn wsX2_barePages (wsV RX2 107 RX2 yX2_bare wsX2_bare) := goodIn_app (goodIn_of _ (by decide +kernel)) ggX2_barePages_X2_bare
set_option maxRecDepth 20000 in
theorem ggX2_barePages_X2_ok : GoodIn wsX2_barePages wsX2_ok := goodIn_r _ [20, 21, 22, 23, 24, 25, 26, 27] (by decide +kernel) (by decide +kernel)
set_option maxRecDepth 20000 in
theorem gX2_barePages_X2_ok : GoodIn wsX2_barePages (wsV RX2 95 RX2 yX2_ok wsX2_ok) := goodIn_app (goodIn_of _ (by decide +kernel)) ggX2_barePages_X2_ok
theorem dX2_barePages_0 : decode cX2_barePages 0 = .ok (.aload_n 0, 1) := by decide +kernel
theorem dX2_barePages_1 : decode cX2_barePages 1 = .ok (.aload_n 0, 1) := by decide +kernel
theorem dX2_barePages_2 : decode cX2_barePages 2 = .ok (.invokevirtual 107, 3) := by decide +kernel
theorem dX2_barePages_5 : decode cX2_barePages 5 = .ok (.invokevirtual 95, 3) := by decide +kernel
theorem dX2_barePages_8 : decode cX2_barePages 8 = .ok (.ireturn, 1) := by decide +kernel
set_option maxRecDepth 20000 in
theorem ggX2_fullestPage_X2_fullest : GoodIn wsX2_fullestPage wsX2_fullest := goodIn_r _ [5, 6, 7, 8, 9, 4, 10, 11, 12, 13, 14, 15, 16, 22, 23, 24, 25, 26, 27] (by decide +kernel) (by decide +kernel)
set_option maxRecDepth 20000 in
theorem gX2_fullestPage_X2_fullest : GoodIn wsX2_fullestPage (wsV RX2 111 RX2 yX2_fullest wsX2_fullest) := goodIn_app (goodIn_of _ (by decide +kernel)) ggX2_fullestPage_X2_fullest
set_option maxRecDepth 20000 in
theorem ggX2_fullestPage_X2_ok : GoodIn wsX2_fullestPage wsX2_ok := goodIn_r _ [20, 21, 22, 23, 24, 25, 26, 27] (by decide +kernel) (by decide +kernel)
set_option maxRecDepth 20000 in
theorem gX2_fullestPage_X2_ok : GoodIn wsX2_fullestPage (wsV RX2 95 RX2 yX2_ok wsX2_ok) := goodIn_app (goodIn_of _ (by decide +kernel)) ggX2_fullestPage_X2_ok
theorem dX2_fullestPage_0 : decode cX2_fullestPage 0 = .ok (.aload_n 0, 1) := by decide +kernel
theorem dX2_fullestPage_1 : decode cX2_fullestPage 1 = .ok (.aload_n 0, 1) := by decide +kernel
theorem dX2_fullestPage_2 : decode cX2_fullestPage 2 = .ok (.invokevirtual 111, 3) := by decide +kernel
theorem dX2_fullestPage_5 : decode cX2_fullestPage 5 = .ok (.invokevirtual 95, 3) := by decide +kernel
theorem dX2_fullestPage_8 : decode cX2_fullestPage 8 = .ok (.ireturn, 1) := by decide +kernel
set_option maxRecDepth 20000 in
theorem ggX2_leadsTo_X2_isHeading : GoodIn wsX2_leadsTo wsX2_isHeading := goodIn_r _ [6, 7, 8, 9, 5, 10, 20, 21, 22, 23, 24, 25] (by decide +kernel) (by decide +kernel)
set_option maxRecDepth 20000 in
theorem gX2_leadsTo_X2_isHeading : GoodIn wsX2_leadsTo (wsV RX2 73 RX2 yX2_isHeading wsX2_isHeading) := goodIn_app (goodIn_of _ (by decide +kernel)) ggX2_leadsTo_X2_isHeading
set_option maxRecDepth 20000 in
theorem ggX2_leadsTo_X2_end : GoodIn wsX2_leadsTo wsX2_end := goodIn_r _ [14, 7, 15, 20, 21, 22, 23, 24, 25] (by decide +kernel) (by decide +kernel)
set_option maxRecDepth 20000 in
theorem gX2_leadsTo_X2_end : GoodIn wsX2_leadsTo (wsV RX2 49 RX2 yX2_end wsX2_end) := goodIn_app (goodIn_of _ (by decide +kernel)) ggX2_leadsTo_X2_end
set_option maxRecDepth 20000 in
theorem ggX2_leadsTo_X2_no : GoodIn wsX2_leadsTo wsX2_no := goodIn_r _ [19, 1, 20, 21, 22, 23, 24, 25] (by decide +kernel) (by decide +kernel)
set_option maxRecDepth 20000 in
theorem gX2_leadsTo_X2_no : GoodIn wsX2_leadsTo (wsV RX2 66 RX2 yX2_no wsX2_no) := goodIn_app (goodIn_of _ (by decide +kernel)) ggX2_leadsTo_X2_no
theorem dX2_leadsTo_0 : decode cX2_leadsTo 0 = .ok (.aload_n 0, 1) := by decide +kernel
theorem dX2_leadsTo_1 : decode cX2_leadsTo 1 = .ok (.iconst 0, 1) := by decide +kernel
theorem dX2_leadsTo_2 : decode cX2_leadsTo 2 = .ok (.putfield 24, 3) := by decide +kernel
theorem dX2_leadsTo_5 : decode cX2_leadsTo 5 = .ok (.aload_n 0, 1) := by decide +kernel
theorem dX2_leadsTo_6 : decode cX2_leadsTo 6 = .ok (.iload_n 1, 1) := by decide +kernel
theorem dX2_leadsTo_7 : decode cX2_leadsTo 7 = .ok (.invokevirtual 73, 3) := by decide +kernel
theorem dX2_leadsTo_10 : decode cX2_leadsTo 10 = .ok (.ifCond .eq 11, 3) := by decide +kernel
theorem dX2_leadsTo_13 : decode cX2_leadsTo 13 = .ok (.aload_n 0, 1) := by decide +kernel
theorem dX2_leadsTo_14 : decode cX2_leadsTo 14 = .ok (.iload_n 1, 1) := by decide +kernel
theorem dX2_leadsTo_15 : decode cX2_leadsTo 15 = .ok (.invokevirtual 49, 3) := by decide +kernel
theorem dX2_leadsTo_18 : decode cX2_leadsTo 18 = .ok (.goto 8, 3) := by decide +kernel
theorem dX2_leadsTo_21 : decode cX2_leadsTo 21 = .ok (.aload_n 0, 1) := by decide +kernel
theorem dX2_leadsTo_22 : decode cX2_leadsTo 22 = .ok (.iconst 1, 1) := by decide +kernel
theorem dX2_leadsTo_23 : decode cX2_leadsTo 23 = .ok (.invokevirtual 66, 3) := by decide +kernel
theorem dX2_leadsTo_26 : decode cX2_leadsTo 26 = .ok (.ireturn, 1) := by decide +kernel
set_option maxRecDepth 20000 in
theorem ggX2_vainSees_X2_vain : GoodIn wsX2_vainSees wsX2_vain := goodIn_r _ [5, 6, 7, 8, 9, 10, 4, 11, 12, 13, 14, 15, 16, 17, 18, 19, 20, 21, 27, 28, 29, 30, 31, 32] (by decide +kernel) (by decide +kernel)
set_option maxRecDepth 20000 in
theorem gX2_vainSees_X2_vain : GoodIn wsX2_vainSees (wsV RX2 114 RX2 yX2_vain wsX2_vain) := goodIn_app (goodIn_of _ (by decide +kernel)) ggX2_vainSees_X2_vain
set_option maxRecDepth 20000 in
theorem ggX2_vainSees_X2_ok : GoodIn wsX2_vainSees wsX2_ok := goodIn_r _ [25, 26, 27, 28, 29, 30, 31, 32] (by decide +kernel) (by decide +kernel)
set_option maxRecDepth 20000 in
theorem gX2_vainSees_X2_ok : GoodIn wsX2_vainSees (wsV RX2 95 RX2 yX2_ok wsX2_ok) := goodIn_app (goodIn_of _ (by decide +kernel)) ggX2_vainSees_X2_ok
theorem dX2_vainSees_0 : decode cX2_vainSees 0 = .ok (.aload_n 0, 1) := by decide +kernel
theorem dX2_vainSees_1 : decode cX2_vainSees 1 = .ok (.aload_n 0, 1) := by decide +kernel
theorem dX2_vainSees_2 : decode cX2_vainSees 2 = .ok (.invokevirtual 114, 3) := by decide +kernel
theorem dX2_vainSees_5 : decode cX2_vainSees 5 = .ok (.invokevirtual 95, 3) := by decide +kernel
theorem dX2_vainSees_8 : decode cX2_vainSees 8 = .ok (.ireturn, 1) := by decide +kernel
set_option maxRecDepth 20000 in
theorem ggX2_steps_X2_isHeading : GoodIn wsX2_steps wsX2_isHeading := goodIn_r _ [6, 7, 8, 9, 5, 10, 25, 26, 27, 28, 29, 30] (by decide +kernel) (by decide +kernel)
set_option maxRecDepth 20000 in
theorem gX2_steps_X2_isHeading : GoodIn wsX2_steps (wsV RX2 73 RX2 yX2_isHeading wsX2_isHeading) := goodIn_app (goodIn_of _ (by decide +kernel)) ggX2_steps_X2_isHeading
set_option maxRecDepth 20000 in
theorem ggX2_steps_X2_far : GoodIn wsX2_steps wsX2_far := goodIn_r _ [14, 15, 16, 17, 5, 18, 7, 19, 20, 25, 26, 27, 28, 29, 30] (by decide +kernel) (by decide +kernel)
set_option maxRecDepth 20000 in
theorem gX2_steps_X2_far : GoodIn wsX2_steps (wsV RX2 117 RX2 yX2_far wsX2_far) := goodIn_app (goodIn_of _ (by decide +kernel)) ggX2_steps_X2_far
set_option maxRecDepth 20000 in
theorem ggX2_steps_X2_no : GoodIn wsX2_steps wsX2_no := goodIn_r _ [24, 1, 25, 26, 27, 28, 29, 30] (by decide +kernel) (by decide +kernel)
set_option maxRecDepth 20000 in
theorem gX2_steps_X2_no : GoodIn wsX2_steps (wsV RX2 66 RX2 yX2_no wsX2_no) := goodIn_app (goodIn_of _ (by decide +kernel)) ggX2_steps_X2_no
theorem dX2_steps_0 : decode cX2_steps 0 = .ok (.aload_n 0, 1) := by decide +kernel
theorem dX2_steps_1 : decode cX2_steps 1 = .ok (.iconst 0, 1) := by decide +kernel
theorem dX2_steps_2 : decode cX2_steps 2 = .ok (.putfield 24, 3) := by decide +kernel
theorem dX2_steps_5 : decode cX2_steps 5 = .ok (.aload_n 0, 1) := by decide +kernel
theorem dX2_steps_6 : decode cX2_steps 6 = .ok (.iload_n 1, 1) := by decide +kernel
theorem dX2_steps_7 : decode cX2_steps 7 = .ok (.invokevirtual 73, 3) := by decide +kernel
theorem dX2_steps_10 : decode cX2_steps 10 = .ok (.ifCond .eq 20, 3) := by decide +kernel
theorem dX2_steps_13 : decode cX2_steps 13 = .ok (.aload_n 0, 1) := by decide +kernel
theorem dX2_steps_14 : decode cX2_steps 14 = .ok (.iload_n 2, 1) := by decide +kernel
theorem dX2_steps_15 : decode cX2_steps 15 = .ok (.invokevirtual 73, 3) := by decide +kernel
theorem dX2_steps_18 : decode cX2_steps 18 = .ok (.ifCond .eq 12, 3) := by decide +kernel
theorem dX2_steps_21 : decode cX2_steps 21 = .ok (.aload_n 0, 1) := by decide +kernel
theorem dX2_steps_22 : decode cX2_steps 22 = .ok (.iload_n 1, 1) := by decide +kernel
theorem dX2_steps_23 : decode cX2_steps 23 = .ok (.iload_n 2, 1) := by decide +kernel
theorem dX2_steps_24 : decode cX2_steps 24 = .ok (.invokevirtual 117, 3) := by decide +kernel
theorem dX2_steps_27 : decode cX2_steps 27 = .ok (.goto 8, 3) := by decide +kernel
theorem dX2_steps_30 : decode cX2_steps 30 = .ok (.aload_n 0, 1) := by decide +kernel
theorem dX2_steps_31 : decode cX2_steps 31 = .ok (.iconst 1, 1) := by decide +kernel
theorem dX2_steps_32 : decode cX2_steps 32 = .ok (.invokevirtual 66, 3) := by decide +kernel
theorem dX2_steps_35 : decode cX2_steps 35 = .ok (.ireturn, 1) := by decide +kernel
set_option maxRecDepth 20000 in
theorem ggX2_reachOf_X2_isHeading : GoodIn wsX2_reachOf wsX2_isHeading := goodIn_r _ [6, 7, 8, 9, 5, 10, 32, 33, 34, 35, 36, 37] (by decide +kernel) (by decide +kernel)
set_option maxRecDepth 20000 in
theorem gX2_reachOf_X2_isHeading : GoodIn wsX2_reachOf (wsV RX2 73 RX2 yX2_isHeading wsX2_isHeading) := goodIn_app (goodIn_of _ (by decide +kernel)) ggX2_reachOf_X2_isHeading
set_option maxRecDepth 20000 in
theorem ggX2_reachOf_X2_all : GoodIn wsX2_reachOf wsX2_all := goodIn_r _ [14, 15, 16, 17, 5, 18, 7, 19, 20, 32, 33, 34, 35, 36, 37] (by decide +kernel) (by decide +kernel)
set_option maxRecDepth 20000 in
theorem gX2_reachOf_X2_all : GoodIn wsX2_reachOf (wsV RX2 58 RX2 yX2_all wsX2_all) := goodIn_app (goodIn_of _ (by decide +kernel)) ggX2_reachOf_X2_all
set_option maxRecDepth 20000 in
theorem ggX2_reachOf_J6_bitCount_0f7a4 : GoodIn wsX2_reachOf wsJ6_bitCount_0f7a4 := goodIn_r _ [24, 25, 26, 27] (by decide +kernel) (by decide +kernel)
set_option maxRecDepth 20000 in
theorem gX2_reachOf_J6_bitCount_0f7a4 : GoodIn wsX2_reachOf (va_wsS RX2 61 yJ6_bitCount_0f7a4 wsJ6_bitCount_0f7a4) := goodIn_app (goodIn_of _ (by decide +kernel)) ggX2_reachOf_J6_bitCount_0f7a4
set_option maxRecDepth 20000 in
theorem ggX2_reachOf_X2_no : GoodIn wsX2_reachOf wsX2_no := goodIn_r _ [31, 1, 32, 33, 34, 35, 36, 37] (by decide +kernel) (by decide +kernel)
set_option maxRecDepth 20000 in
theorem gX2_reachOf_X2_no : GoodIn wsX2_reachOf (wsV RX2 66 RX2 yX2_no wsX2_no) := goodIn_app (goodIn_of _ (by decide +kernel)) ggX2_reachOf_X2_no
theorem dX2_reachOf_0 : decode cX2_reachOf 0 = .ok (.aload_n 0, 1) := by decide +kernel
theorem dX2_reachOf_1 : decode cX2_reachOf 1 = .ok (.iconst 0, 1) := by decide +kernel
theorem dX2_reachOf_2 : decode cX2_reachOf 2 = .ok (.putfield 24, 3) := by decide +kernel
theorem dX2_reachOf_5 : decode cX2_reachOf 5 = .ok (.aload_n 0, 1) := by decide +kernel
theorem dX2_reachOf_6 : decode cX2_reachOf 6 = .ok (.iload_n 1, 1) := by decide +kernel
theorem dX2_reachOf_7 : decode cX2_reachOf 7 = .ok (.invokevirtual 73, 3) := by decide +kernel
theorem dX2_reachOf_10 : decode cX2_reachOf 10 = .ok (.ifCond .eq 16, 3) := by decide +kernel
theorem dX2_reachOf_13 : decode cX2_reachOf 13 = .ok (.aload_n 0, 1) := by decide +kernel
theorem dX2_reachOf_14 : decode cX2_reachOf 14 = .ok (.iconst 1, 1) := by decide +kernel
theorem dX2_reachOf_15 : decode cX2_reachOf 15 = .ok (.iload_n 1, 1) := by decide +kernel
theorem dX2_reachOf_16 : decode cX2_reachOf 16 = .ok (.ishl, 1) := by decide +kernel
theorem dX2_reachOf_17 : decode cX2_reachOf 17 = .ok (.invokevirtual 58, 3) := by decide +kernel
theorem dX2_reachOf_20 : decode cX2_reachOf 20 = .ok (.invokestatic 61, 3) := by decide +kernel
theorem dX2_reachOf_23 : decode cX2_reachOf 23 = .ok (.goto 8, 3) := by decide +kernel
theorem dX2_reachOf_26 : decode cX2_reachOf 26 = .ok (.aload_n 0, 1) := by decide +kernel
theorem dX2_reachOf_27 : decode cX2_reachOf 27 = .ok (.iconst 1, 1) := by decide +kernel
theorem dX2_reachOf_28 : decode cX2_reachOf 28 = .ok (.invokevirtual 66, 3) := by decide +kernel
theorem dX2_reachOf_31 : decode cX2_reachOf 31 = .ok (.ireturn, 1) := by decide +kernel
set_option maxRecDepth 20000 in
theorem ggX2_isInRing_X2_isHeading : GoodIn wsX2_isInRing wsX2_isHeading := goodIn_r _ [6, 7, 8, 9, 5, 10, 29, 30, 31, 32, 33, 34] (by decide +kernel) (by decide +kernel)
set_option maxRecDepth 20000 in
theorem gX2_isInRing_X2_isHeading : GoodIn wsX2_isInRing (wsV RX2 73 RX2 yX2_isHeading wsX2_isHeading) := goodIn_app (goodIn_of _ (by decide +kernel)) ggX2_isInRing_X2_isHeading
set_option maxRecDepth 20000 in
theorem ggX2_isInRing_X2_rings : GoodIn wsX2_isInRing wsX2_rings := goodIn_r _ [14, 15, 16, 17, 5, 18, 7, 19, 20, 21, 22, 23, 24, 29, 30, 31, 32, 33, 34] (by decide +kernel) (by decide +kernel)
set_option maxRecDepth 20000 in
theorem gX2_isInRing_X2_rings : GoodIn wsX2_isInRing (wsV RX2 120 RX2 yX2_rings wsX2_rings) := goodIn_app (goodIn_of _ (by decide +kernel)) ggX2_isInRing_X2_rings
set_option maxRecDepth 20000 in
theorem ggX2_isInRing_X2_isNot : GoodIn wsX2_isInRing wsX2_isNot := goodIn_r _ [28, 1, 29, 30, 31, 32, 33, 34] (by decide +kernel) (by decide +kernel)
set_option maxRecDepth 20000 in
theorem gX2_isInRing_X2_isNot : GoodIn wsX2_isInRing (wsV RX2 104 RX2 yX2_isNot wsX2_isNot) := goodIn_app (goodIn_of _ (by decide +kernel)) ggX2_isInRing_X2_isNot
theorem dX2_isInRing_0 : decode cX2_isInRing 0 = .ok (.aload_n 0, 1) := by decide +kernel
theorem dX2_isInRing_1 : decode cX2_isInRing 1 = .ok (.iconst 0, 1) := by decide +kernel
theorem dX2_isInRing_2 : decode cX2_isInRing 2 = .ok (.putfield 24, 3) := by decide +kernel
theorem dX2_isInRing_5 : decode cX2_isInRing 5 = .ok (.aload_n 0, 1) := by decide +kernel
theorem dX2_isInRing_6 : decode cX2_isInRing 6 = .ok (.iload_n 1, 1) := by decide +kernel
theorem dX2_isInRing_7 : decode cX2_isInRing 7 = .ok (.invokevirtual 73, 3) := by decide +kernel
theorem dX2_isInRing_10 : decode cX2_isInRing 10 = .ok (.ifCond .eq 11, 3) := by decide +kernel
theorem dX2_isInRing_13 : decode cX2_isInRing 13 = .ok (.aload_n 0, 1) := by decide +kernel
theorem dX2_isInRing_14 : decode cX2_isInRing 14 = .ok (.iload_n 1, 1) := by decide +kernel
theorem dX2_isInRing_15 : decode cX2_isInRing 15 = .ok (.invokevirtual 120, 3) := by decide +kernel
theorem dX2_isInRing_18 : decode cX2_isInRing 18 = .ok (.goto 8, 3) := by decide +kernel
theorem dX2_isInRing_21 : decode cX2_isInRing 21 = .ok (.aload_n 0, 1) := by decide +kernel
theorem dX2_isInRing_22 : decode cX2_isInRing 22 = .ok (.iconst 1, 1) := by decide +kernel
theorem dX2_isInRing_23 : decode cX2_isInRing 23 = .ok (.invokevirtual 104, 3) := by decide +kernel
theorem dX2_isInRing_26 : decode cX2_isInRing 26 = .ok (.ireturn, 1) := by decide +kernel
set_option maxRecDepth 20000 in
theorem ggX2_unled_X2_alone : GoodIn wsX2_unled wsX2_alone := goodIn_r _ [5, 6, 7, 8, 9, 4, 10, 11, 12, 13, 14, 15, 16, 17, 18, 19, 25, 26, 27, 28, 29, 30] (by decide +kernel) (by decide +kernel)
set_option maxRecDepth 20000 in
theorem gX2_unled_X2_alone : GoodIn wsX2_unled (wsV RX2 123 RX2 yX2_alone wsX2_alone) := goodIn_app (goodIn_of _ (by decide +kernel)) ggX2_unled_X2_alone
set_option maxRecDepth 20000 in
theorem ggX2_unled_X2_ok : GoodIn wsX2_unled wsX2_ok := goodIn_r _ [23, 24, 25, 26, 27, 28, 29, 30] (by decide +kernel) (by decide +kernel)
set_option maxRecDepth 20000 in
theorem gX2_unled_X2_ok : GoodIn wsX2_unled (wsV RX2 95 RX2 yX2_ok wsX2_ok) := goodIn_app (goodIn_of _ (by decide +kernel)) ggX2_unled_X2_ok
theorem dX2_unled_0 : decode cX2_unled 0 = .ok (.aload_n 0, 1) := by decide +kernel
theorem dX2_unled_1 : decode cX2_unled 1 = .ok (.aload_n 0, 1) := by decide +kernel
theorem dX2_unled_2 : decode cX2_unled 2 = .ok (.invokevirtual 123, 3) := by decide +kernel
theorem dX2_unled_5 : decode cX2_unled 5 = .ok (.invokevirtual 95, 3) := by decide +kernel
theorem dX2_unled_8 : decode cX2_unled 8 = .ok (.ireturn, 1) := by decide +kernel
set_option maxRecDepth 20000 in
theorem ggX2_spansWithGap_X2_isHeading : GoodIn wsX2_spansWithGap wsX2_isHeading := goodIn_r _ [6, 7, 8, 9, 5, 10, 25, 26, 27, 28, 29, 30] (by decide +kernel) (by decide +kernel)
set_option maxRecDepth 20000 in
theorem gX2_spansWithGap_X2_isHeading : GoodIn wsX2_spansWithGap (wsV RX2 73 RX2 yX2_isHeading wsX2_isHeading) := goodIn_app (goodIn_of _ (by decide +kernel)) ggX2_spansWithGap_X2_isHeading
set_option maxRecDepth 20000 in
theorem ggX2_spansWithGap_X2_no : GoodIn wsX2_spansWithGap wsX2_no := goodIn_r _ [14, 1, 25, 26, 27, 28, 29, 30] (by decide +kernel) (by decide +kernel)
set_option maxRecDepth 20000 in
theorem gX2_spansWithGap_X2_no : GoodIn wsX2_spansWithGap (wsV RX2 66 RX2 yX2_no wsX2_no) := goodIn_app (goodIn_of _ (by decide +kernel)) ggX2_spansWithGap_X2_no
set_option maxRecDepth 20000 in
theorem ggX2_spansWithGap_X2_isIn : GoodIn wsX2_spansWithGap wsX2_isIn := goodIn_r _ [10] (by decide +kernel) (by decide +kernel)
set_option maxRecDepth 20000 in
theorem gX2_spansWithGap_X2_isIn : GoodIn wsX2_spansWithGap (va_wsS RX2 30 yX2_isIn wsX2_isIn) := goodIn_app (goodIn_of _ (by decide +kernel)) ggX2_spansWithGap_X2_isIn
set_option maxRecDepth 20000 in
theorem ggX2_spansWithGap_X2_spans : GoodIn wsX2_spansWithGap wsX2_spans := goodIn_r _ [18, 19, 20, 21, 22, 5, 23, 24, 25, 26, 27, 28, 29, 30] (by decide +kernel) (by decide +kernel)
set_option maxRecDepth 20000 in
theorem gX2_spansWithGap_X2_spans : GoodIn wsX2_spansWithGap (wsV RX2 88 RX2 yX2_spans wsX2_spans) := goodIn_app (goodIn_of _ (by decide +kernel)) ggX2_spansWithGap_X2_spans
theorem dX2_spansWithGap_0 : decode cX2_spansWithGap 0 = .ok (.aload_n 0, 1) := by decide +kernel
theorem dX2_spansWithGap_1 : decode cX2_spansWithGap 1 = .ok (.iconst 0, 1) := by decide +kernel
theorem dX2_spansWithGap_2 : decode cX2_spansWithGap 2 = .ok (.putfield 24, 3) := by decide +kernel
theorem dX2_spansWithGap_5 : decode cX2_spansWithGap 5 = .ok (.aload_n 0, 1) := by decide +kernel
theorem dX2_spansWithGap_6 : decode cX2_spansWithGap 6 = .ok (.iload_n 1, 1) := by decide +kernel
theorem dX2_spansWithGap_7 : decode cX2_spansWithGap 7 = .ok (.invokevirtual 73, 3) := by decide +kernel
theorem dX2_spansWithGap_10 : decode cX2_spansWithGap 10 = .ok (.ifCond .ne 9, 3) := by decide +kernel
theorem dX2_spansWithGap_13 : decode cX2_spansWithGap 13 = .ok (.aload_n 0, 1) := by decide +kernel
theorem dX2_spansWithGap_14 : decode cX2_spansWithGap 14 = .ok (.iconst 1, 1) := by decide +kernel
theorem dX2_spansWithGap_15 : decode cX2_spansWithGap 15 = .ok (.invokevirtual 66, 3) := by decide +kernel
theorem dX2_spansWithGap_18 : decode cX2_spansWithGap 18 = .ok (.ireturn, 1) := by decide +kernel
theorem dX2_spansWithGap_19 : decode cX2_spansWithGap 19 = .ok (.iload_n 2, 1) := by decide +kernel
theorem dX2_spansWithGap_20 : decode cX2_spansWithGap 20 = .ok (.iconst 0, 1) := by decide +kernel
theorem dX2_spansWithGap_21 : decode cX2_spansWithGap 21 = .ok (.bipush 100, 2) := by decide +kernel
theorem dX2_spansWithGap_23 : decode cX2_spansWithGap 23 = .ok (.invokestatic 30, 3) := by decide +kernel
theorem dX2_spansWithGap_26 : decode cX2_spansWithGap 26 = .ok (.ifCond .eq 13, 3) := by decide +kernel
theorem dX2_spansWithGap_29 : decode cX2_spansWithGap 29 = .ok (.aload_n 0, 1) := by decide +kernel
theorem dX2_spansWithGap_30 : decode cX2_spansWithGap 30 = .ok (.iload_n 1, 1) := by decide +kernel
theorem dX2_spansWithGap_31 : decode cX2_spansWithGap 31 = .ok (.iload_n 1, 1) := by decide +kernel
theorem dX2_spansWithGap_32 : decode cX2_spansWithGap 32 = .ok (.iload_n 2, 1) := by decide +kernel
theorem dX2_spansWithGap_33 : decode cX2_spansWithGap 33 = .ok (.invokevirtual 88, 3) := by decide +kernel
theorem dX2_spansWithGap_36 : decode cX2_spansWithGap 36 = .ok (.goto 8, 3) := by decide +kernel
theorem dX2_spansWithGap_39 : decode cX2_spansWithGap 39 = .ok (.aload_n 0, 1) := by decide +kernel
theorem dX2_spansWithGap_40 : decode cX2_spansWithGap 40 = .ok (.iconst 2, 1) := by decide +kernel
theorem dX2_spansWithGap_41 : decode cX2_spansWithGap 41 = .ok (.invokevirtual 66, 3) := by decide +kernel
theorem dX2_spansWithGap_44 : decode cX2_spansWithGap 44 = .ok (.ireturn, 1) := by decide +kernel
set_option maxRecDepth 20000 in
theorem ggX2_commonPages_X2_isHeading : GoodIn wsX2_commonPages wsX2_isHeading := goodIn_r _ [6, 7, 8, 9, 5, 10, 25, 26, 27, 28, 29, 30] (by decide +kernel) (by decide +kernel)
set_option maxRecDepth 20000 in
theorem gX2_commonPages_X2_isHeading : GoodIn wsX2_commonPages (wsV RX2 73 RX2 yX2_isHeading wsX2_isHeading) := goodIn_app (goodIn_of _ (by decide +kernel)) ggX2_commonPages_X2_isHeading
set_option maxRecDepth 20000 in
theorem ggX2_commonPages_X2_common : GoodIn wsX2_commonPages wsX2_common := goodIn_r _ [14, 15, 16, 17, 18, 5, 19, 20, 25, 26, 27, 28, 29, 30] (by decide +kernel) (by decide +kernel)
set_option maxRecDepth 20000 in
theorem gX2_commonPages_X2_common : GoodIn wsX2_commonPages (wsV RX2 42 RX2 yX2_common wsX2_common) := goodIn_app (goodIn_of _ (by decide +kernel)) ggX2_commonPages_X2_common
set_option maxRecDepth 20000 in
theorem ggX2_commonPages_X2_no : GoodIn wsX2_commonPages wsX2_no := goodIn_r _ [24, 1, 25, 26, 27, 28, 29, 30] (by decide +kernel) (by decide +kernel)
set_option maxRecDepth 20000 in
theorem gX2_commonPages_X2_no : GoodIn wsX2_commonPages (wsV RX2 66 RX2 yX2_no wsX2_no) := goodIn_app (goodIn_of _ (by decide +kernel)) ggX2_commonPages_X2_no
theorem dX2_commonPages_0 : decode cX2_commonPages 0 = .ok (.aload_n 0, 1) := by decide +kernel
theorem dX2_commonPages_1 : decode cX2_commonPages 1 = .ok (.iconst 0, 1) := by decide +kernel
theorem dX2_commonPages_2 : decode cX2_commonPages 2 = .ok (.putfield 24, 3) := by decide +kernel
theorem dX2_commonPages_5 : decode cX2_commonPages 5 = .ok (.aload_n 0, 1) := by decide +kernel
theorem dX2_commonPages_6 : decode cX2_commonPages 6 = .ok (.iload_n 1, 1) := by decide +kernel
theorem dX2_commonPages_7 : decode cX2_commonPages 7 = .ok (.invokevirtual 73, 3) := by decide +kernel
theorem dX2_commonPages_10 : decode cX2_commonPages 10 = .ok (.ifCond .eq 20, 3) := by decide +kernel
theorem dX2_commonPages_13 : decode cX2_commonPages 13 = .ok (.aload_n 0, 1) := by decide +kernel
theorem dX2_commonPages_14 : decode cX2_commonPages 14 = .ok (.iload_n 2, 1) := by decide +kernel
theorem dX2_commonPages_15 : decode cX2_commonPages 15 = .ok (.invokevirtual 73, 3) := by decide +kernel
theorem dX2_commonPages_18 : decode cX2_commonPages 18 = .ok (.ifCond .eq 12, 3) := by decide +kernel
theorem dX2_commonPages_21 : decode cX2_commonPages 21 = .ok (.aload_n 0, 1) := by decide +kernel
theorem dX2_commonPages_22 : decode cX2_commonPages 22 = .ok (.iload_n 1, 1) := by decide +kernel
theorem dX2_commonPages_23 : decode cX2_commonPages 23 = .ok (.iload_n 2, 1) := by decide +kernel
theorem dX2_commonPages_24 : decode cX2_commonPages 24 = .ok (.invokevirtual 42, 3) := by decide +kernel
theorem dX2_commonPages_27 : decode cX2_commonPages 27 = .ok (.goto 8, 3) := by decide +kernel
theorem dX2_commonPages_30 : decode cX2_commonPages 30 = .ok (.aload_n 0, 1) := by decide +kernel
theorem dX2_commonPages_31 : decode cX2_commonPages 31 = .ok (.iconst 1, 1) := by decide +kernel
theorem dX2_commonPages_32 : decode cX2_commonPages 32 = .ok (.invokevirtual 66, 3) := by decide +kernel
theorem dX2_commonPages_35 : decode cX2_commonPages 35 = .ok (.ireturn, 1) := by decide +kernel
set_option maxRecDepth 20000 in
theorem ggX2_nearest_X2_isHeading : GoodIn wsX2_nearest wsX2_isHeading := goodIn_r _ [6, 7, 8, 9, 5, 10, 29, 30, 31, 32, 33, 34] (by decide +kernel) (by decide +kernel)
set_option maxRecDepth 20000 in
theorem gX2_nearest_X2_isHeading : GoodIn wsX2_nearest (wsV RX2 73 RX2 yX2_isHeading wsX2_isHeading) := goodIn_app (goodIn_of _ (by decide +kernel)) ggX2_nearest_X2_isHeading
set_option maxRecDepth 20000 in
theorem ggX2_nearest_X2_near : GoodIn wsX2_nearest wsX2_near := goodIn_r _ [14, 7, 15, 16, 17, 5, 18, 19, 20, 21, 22, 23, 24, 29, 30, 31, 32, 33, 34] (by decide +kernel) (by decide +kernel)
set_option maxRecDepth 20000 in
theorem gX2_nearest_X2_near : GoodIn wsX2_nearest (wsV RX2 126 RX2 yX2_near wsX2_near) := goodIn_app (goodIn_of _ (by decide +kernel)) ggX2_nearest_X2_near
set_option maxRecDepth 20000 in
theorem ggX2_nearest_X2_no : GoodIn wsX2_nearest wsX2_no := goodIn_r _ [28, 1, 29, 30, 31, 32, 33, 34] (by decide +kernel) (by decide +kernel)
set_option maxRecDepth 20000 in
theorem gX2_nearest_X2_no : GoodIn wsX2_nearest (wsV RX2 66 RX2 yX2_no wsX2_no) := goodIn_app (goodIn_of _ (by decide +kernel)) ggX2_nearest_X2_no
theorem dX2_nearest_0 : decode cX2_nearest 0 = .ok (.aload_n 0, 1) := by decide +kernel
theorem dX2_nearest_1 : decode cX2_nearest 1 = .ok (.iconst 0, 1) := by decide +kernel
theorem dX2_nearest_2 : decode cX2_nearest 2 = .ok (.putfield 24, 3) := by decide +kernel
theorem dX2_nearest_5 : decode cX2_nearest 5 = .ok (.aload_n 0, 1) := by decide +kernel
theorem dX2_nearest_6 : decode cX2_nearest 6 = .ok (.iload_n 1, 1) := by decide +kernel
theorem dX2_nearest_7 : decode cX2_nearest 7 = .ok (.invokevirtual 73, 3) := by decide +kernel
theorem dX2_nearest_10 : decode cX2_nearest 10 = .ok (.ifCond .eq 11, 3) := by decide +kernel
theorem dX2_nearest_13 : decode cX2_nearest 13 = .ok (.aload_n 0, 1) := by decide +kernel
theorem dX2_nearest_14 : decode cX2_nearest 14 = .ok (.iload_n 1, 1) := by decide +kernel
theorem dX2_nearest_15 : decode cX2_nearest 15 = .ok (.invokevirtual 126, 3) := by decide +kernel
theorem dX2_nearest_18 : decode cX2_nearest 18 = .ok (.goto 8, 3) := by decide +kernel
theorem dX2_nearest_21 : decode cX2_nearest 21 = .ok (.aload_n 0, 1) := by decide +kernel
theorem dX2_nearest_22 : decode cX2_nearest 22 = .ok (.iconst 1, 1) := by decide +kernel
theorem dX2_nearest_23 : decode cX2_nearest 23 = .ok (.invokevirtual 66, 3) := by decide +kernel
theorem dX2_nearest_26 : decode cX2_nearest 26 = .ok (.ireturn, 1) := by decide +kernel
set_option maxRecDepth 20000 in
theorem ggX2_spansTogether_X2_isHeading : GoodIn wsX2_spansTogether wsX2_isHeading := goodIn_r _ [6, 7, 8, 9, 5, 10, 25, 26, 27, 28, 29, 30] (by decide +kernel) (by decide +kernel)
set_option maxRecDepth 20000 in
theorem gX2_spansTogether_X2_isHeading : GoodIn wsX2_spansTogether (wsV RX2 73 RX2 yX2_isHeading wsX2_isHeading) := goodIn_app (goodIn_of _ (by decide +kernel)) ggX2_spansTogether_X2_isHeading
set_option maxRecDepth 20000 in
theorem ggX2_spansTogether_X2_spans : GoodIn wsX2_spansTogether wsX2_spans := goodIn_r _ [14, 15, 16, 17, 18, 5, 19, 20, 25, 26, 27, 28, 29, 30] (by decide +kernel) (by decide +kernel)
set_option maxRecDepth 20000 in
theorem gX2_spansTogether_X2_spans : GoodIn wsX2_spansTogether (wsV RX2 88 RX2 yX2_spans wsX2_spans) := goodIn_app (goodIn_of _ (by decide +kernel)) ggX2_spansTogether_X2_spans
set_option maxRecDepth 20000 in
theorem ggX2_spansTogether_X2_no : GoodIn wsX2_spansTogether wsX2_no := goodIn_r _ [24, 1, 25, 26, 27, 28, 29, 30] (by decide +kernel) (by decide +kernel)
set_option maxRecDepth 20000 in
theorem gX2_spansTogether_X2_no : GoodIn wsX2_spansTogether (wsV RX2 66 RX2 yX2_no wsX2_no) := goodIn_app (goodIn_of _ (by decide +kernel)) ggX2_spansTogether_X2_no
theorem dX2_spansTogether_0 : decode cX2_spansTogether 0 = .ok (.aload_n 0, 1) := by decide +kernel
theorem dX2_spansTogether_1 : decode cX2_spansTogether 1 = .ok (.iconst 0, 1) := by decide +kernel
theorem dX2_spansTogether_2 : decode cX2_spansTogether 2 = .ok (.putfield 24, 3) := by decide +kernel
theorem dX2_spansTogether_5 : decode cX2_spansTogether 5 = .ok (.aload_n 0, 1) := by decide +kernel
theorem dX2_spansTogether_6 : decode cX2_spansTogether 6 = .ok (.iload_n 1, 1) := by decide +kernel
theorem dX2_spansTogether_7 : decode cX2_spansTogether 7 = .ok (.invokevirtual 73, 3) := by decide +kernel
theorem dX2_spansTogether_10 : decode cX2_spansTogether 10 = .ok (.ifCond .eq 21, 3) := by decide +kernel
theorem dX2_spansTogether_13 : decode cX2_spansTogether 13 = .ok (.aload_n 0, 1) := by decide +kernel
theorem dX2_spansTogether_14 : decode cX2_spansTogether 14 = .ok (.iload_n 2, 1) := by decide +kernel
theorem dX2_spansTogether_15 : decode cX2_spansTogether 15 = .ok (.invokevirtual 73, 3) := by decide +kernel
theorem dX2_spansTogether_18 : decode cX2_spansTogether 18 = .ok (.ifCond .eq 13, 3) := by decide +kernel
theorem dX2_spansTogether_21 : decode cX2_spansTogether 21 = .ok (.aload_n 0, 1) := by decide +kernel
theorem dX2_spansTogether_22 : decode cX2_spansTogether 22 = .ok (.iload_n 1, 1) := by decide +kernel
theorem dX2_spansTogether_23 : decode cX2_spansTogether 23 = .ok (.iload_n 2, 1) := by decide +kernel
theorem dX2_spansTogether_24 : decode cX2_spansTogether 24 = .ok (.iconst 0, 1) := by decide +kernel
theorem dX2_spansTogether_25 : decode cX2_spansTogether 25 = .ok (.invokevirtual 88, 3) := by decide +kernel
theorem dX2_spansTogether_28 : decode cX2_spansTogether 28 = .ok (.goto 8, 3) := by decide +kernel
theorem dX2_spansTogether_31 : decode cX2_spansTogether 31 = .ok (.aload_n 0, 1) := by decide +kernel
theorem dX2_spansTogether_32 : decode cX2_spansTogether 32 = .ok (.iconst 1, 1) := by decide +kernel
theorem dX2_spansTogether_33 : decode cX2_spansTogether 33 = .ok (.invokevirtual 66, 3) := by decide +kernel
theorem dX2_spansTogether_36 : decode cX2_spansTogether 36 = .ok (.ireturn, 1) := by decide +kernel
set_option maxRecDepth 20000 in
theorem ggX2_meanPages_X2_many : GoodIn wsX2_meanPages wsX2_many := goodIn_r _ [7, 8, 9, 10, 11, 6, 12, 13, 14, 15, 16, 17, 18, 19] (by decide +kernel) (by decide +kernel)
set_option maxRecDepth 20000 in
theorem gX2_meanPages_X2_many : GoodIn wsX2_meanPages (wsV RX2 52 RX2 yX2_many wsX2_many) := goodIn_app (goodIn_of _ (by decide +kernel)) ggX2_meanPages_X2_many
theorem dX2_meanPages_0 : decode cX2_meanPages 0 = .ok (.aload_n 0, 1) := by decide +kernel
theorem dX2_meanPages_1 : decode cX2_meanPages 1 = .ok (.iconst 0, 1) := by decide +kernel
theorem dX2_meanPages_2 : decode cX2_meanPages 2 = .ok (.putfield 24, 3) := by decide +kernel
theorem dX2_meanPages_5 : decode cX2_meanPages 5 = .ok (.iconst 0, 1) := by decide +kernel
theorem dX2_meanPages_6 : decode cX2_meanPages 6 = .ok (.istore_n 1, 1) := by decide +kernel
theorem dX2_meanPages_7 : decode cX2_meanPages 7 = .ok (.iconst 0, 1) := by decide +kernel
theorem dX2_meanPages_8 : decode cX2_meanPages 8 = .ok (.istore_n 2, 1) := by decide +kernel
theorem dX2_meanPages_9 : decode cX2_meanPages 9 = .ok (.iconst 0, 1) := by decide +kernel
theorem dX2_meanPages_10 : decode cX2_meanPages 10 = .ok (.istore_n 3, 1) := by decide +kernel
theorem dX2_meanPages_11 : decode cX2_meanPages 11 = .ok (.iload_n 3, 1) := by decide +kernel
theorem dX2_meanPages_12 : decode cX2_meanPages 12 = .ok (.aload_n 0, 1) := by decide +kernel
theorem dX2_meanPages_13 : decode cX2_meanPages 13 = .ok (.getfield 27, 3) := by decide +kernel
theorem dX2_meanPages_16 : decode cX2_meanPages 16 = .ok (.if_icmp .ge 33, 3) := by decide +kernel
theorem dX2_meanPages_19 : decode cX2_meanPages 19 = .ok (.iload_n 1, 1) := by decide +kernel
theorem dX2_meanPages_20 : decode cX2_meanPages 20 = .ok (.aload_n 0, 1) := by decide +kernel
theorem dX2_meanPages_21 : decode cX2_meanPages 21 = .ok (.iload_n 3, 1) := by decide +kernel
theorem dX2_meanPages_22 : decode cX2_meanPages 22 = .ok (.invokevirtual 52, 3) := by decide +kernel
theorem dX2_meanPages_25 : decode cX2_meanPages 25 = .ok (.iadd, 1) := by decide +kernel
theorem dX2_meanPages_26 : decode cX2_meanPages 26 = .ok (.istore_n 1, 1) := by decide +kernel
theorem dX2_meanPages_27 : decode cX2_meanPages 27 = .ok (.iload_n 2, 1) := by decide +kernel
theorem dX2_meanPages_28 : decode cX2_meanPages 28 = .ok (.aload_n 0, 1) := by decide +kernel
theorem dX2_meanPages_29 : decode cX2_meanPages 29 = .ok (.iload_n 3, 1) := by decide +kernel
theorem dX2_meanPages_30 : decode cX2_meanPages 30 = .ok (.invokevirtual 52, 3) := by decide +kernel
theorem dX2_meanPages_33 : decode cX2_meanPages 33 = .ok (.ifCond .le 7, 3) := by decide +kernel
theorem dX2_meanPages_36 : decode cX2_meanPages 36 = .ok (.iconst 1, 1) := by decide +kernel
theorem dX2_meanPages_37 : decode cX2_meanPages 37 = .ok (.goto 4, 3) := by decide +kernel
theorem dX2_meanPages_40 : decode cX2_meanPages 40 = .ok (.iconst 0, 1) := by decide +kernel
theorem dX2_meanPages_41 : decode cX2_meanPages 41 = .ok (.iadd, 1) := by decide +kernel
theorem dX2_meanPages_42 : decode cX2_meanPages 42 = .ok (.istore_n 2, 1) := by decide +kernel
theorem dX2_meanPages_43 : decode cX2_meanPages 43 = .ok (.iinc 3 1, 3) := by decide +kernel
theorem dX2_meanPages_46 : decode cX2_meanPages 46 = .ok (.goto (-35), 3) := by decide +kernel
theorem dX2_meanPages_49 : decode cX2_meanPages 49 = .ok (.iload_n 2, 1) := by decide +kernel
theorem dX2_meanPages_50 : decode cX2_meanPages 50 = .ok (.ifCond .ne 7, 3) := by decide +kernel
theorem dX2_meanPages_53 : decode cX2_meanPages 53 = .ok (.dconst 0, 1) := by decide +kernel
theorem dX2_meanPages_54 : decode cX2_meanPages 54 = .ok (.goto 8, 3) := by decide +kernel
theorem dX2_meanPages_57 : decode cX2_meanPages 57 = .ok (.iload_n 1, 1) := by decide +kernel
theorem dX2_meanPages_58 : decode cX2_meanPages 58 = .ok (.i2d, 1) := by decide +kernel
theorem dX2_meanPages_59 : decode cX2_meanPages 59 = .ok (.iload_n 2, 1) := by decide +kernel
theorem dX2_meanPages_60 : decode cX2_meanPages 60 = .ok (.i2d, 1) := by decide +kernel
theorem dX2_meanPages_61 : decode cX2_meanPages 61 = .ok (.ddiv, 1) := by decide +kernel
theorem dX2_meanPages_62 : decode cX2_meanPages 62 = .ok (.dreturn, 1) := by decide +kernel
set_option maxRecDepth 20000 in
theorem ggX2_digest_X2_bare : GoodIn wsX2_digest wsX2_bare := goodIn_r _ [13, 3, 14, 15, 16, 12, 17, 4, 18, 19, 20, 21, 22, 82, 83, 84, 85, 86, 87] (by decide +kernel) (by decide +kernel)
set_option maxRecDepth 20000 in
theorem gX2_digest_X2_bare : GoodIn wsX2_digest (wsV RX2 107 RX2 yX2_bare wsX2_bare) := goodIn_app (goodIn_of _ (by decide +kernel)) ggX2_digest_X2_bare
set_option maxRecDepth 20000 in
theorem ggX2_digest_X2_fullest : GoodIn wsX2_digest wsX2_fullest := goodIn_r _ [26, 3, 14, 15, 16, 12, 17, 4, 18, 19, 20, 21, 22, 82, 83, 84, 85, 86, 87] (by decide +kernel) (by decide +kernel)
set_option maxRecDepth 20000 in
theorem gX2_digest_X2_fullest : GoodIn wsX2_digest (wsV RX2 111 RX2 yX2_fullest wsX2_fullest) := goodIn_app (goodIn_of _ (by decide +kernel)) ggX2_digest_X2_fullest
set_option maxRecDepth 20000 in
theorem ggX2_digest_X2_vain : GoodIn wsX2_digest wsX2_vain := goodIn_r _ [30, 4, 7, 31, 32, 33, 12, 34, 35, 36, 37, 38, 3, 18, 19, 20, 21, 22, 82, 83, 84, 85, 86, 87] (by decide +kernel) (by decide +kernel)
set_option maxRecDepth 20000 in
theorem gX2_digest_X2_vain : GoodIn wsX2_digest (wsV RX2 114 RX2 yX2_vain wsX2_vain) := goodIn_app (goodIn_of _ (by decide +kernel)) ggX2_digest_X2_vain
set_option maxRecDepth 20000 in
theorem ggX2_digest_X2_alone : GoodIn wsX2_digest wsX2_alone := goodIn_r _ [42, 4, 43, 44, 45, 12, 46, 8, 7, 47, 48, 49, 50, 51, 52, 53, 82, 83, 84, 85, 86, 87] (by decide +kernel) (by decide +kernel)
set_option maxRecDepth 20000 in
theorem gX2_digest_X2_alone : GoodIn wsX2_digest (wsV RX2 123 RX2 yX2_alone wsX2_alone) := goodIn_app (goodIn_of _ (by decide +kernel)) ggX2_digest_X2_alone
set_option maxRecDepth 20000 in
theorem ggX2_digest_X2_spans : GoodIn wsX2_digest wsX2_spans := goodIn_r _ [57, 3, 18, 19, 20, 12, 21, 22, 82, 83, 84, 85, 86, 87] (by decide +kernel) (by decide +kernel)
set_option maxRecDepth 20000 in
theorem gX2_digest_X2_spans : GoodIn wsX2_digest (wsV RX2 88 RX2 yX2_spans wsX2_spans) := goodIn_app (goodIn_of _ (by decide +kernel)) ggX2_digest_X2_spans
set_option maxRecDepth 20000 in
theorem ggX2_digest_X2_many : GoodIn wsX2_digest wsX2_many := goodIn_r _ [38, 3, 18, 19, 20, 12, 21, 22, 82, 83, 84, 85, 86, 87] (by decide +kernel) (by decide +kernel)
set_option maxRecDepth 20000 in
theorem gX2_digest_X2_many : GoodIn wsX2_digest (wsV RX2 52 RX2 yX2_many wsX2_many) := goodIn_app (goodIn_of _ (by decide +kernel)) ggX2_digest_X2_many
set_option maxRecDepth 20000 in
theorem ggX2_digest_J6_bitCount_0f7a4 : GoodIn wsX2_digest wsJ6_bitCount_0f7a4 := goodIn_r _ [50, 51, 52, 53] (by decide +kernel) (by decide +kernel)
set_option maxRecDepth 20000 in
theorem gX2_digest_J6_bitCount_0f7a4 : GoodIn wsX2_digest (va_wsS RX2 61 yJ6_bitCount_0f7a4 wsJ6_bitCount_0f7a4) := goodIn_app (goodIn_of _ (by decide +kernel)) ggX2_digest_J6_bitCount_0f7a4
set_option maxRecDepth 20000 in
theorem ggX2_digest_X2_end : GoodIn wsX2_digest wsX2_end := goodIn_r _ [34, 4, 7, 82, 83, 84, 85, 86, 87] (by decide +kernel) (by decide +kernel)
set_option maxRecDepth 20000 in
theorem gX2_digest_X2_end : GoodIn wsX2_digest (wsV RX2 49 RX2 yX2_end wsX2_end) := goodIn_app (goodIn_of _ (by decide +kernel)) ggX2_digest_X2_end
set_option maxRecDepth 20000 in
theorem ggX2_digest_X2_all : GoodIn wsX2_digest wsX2_all := goodIn_r _ [61, 43, 44, 45, 12, 46, 4, 8, 7, 82, 83, 84, 85, 86, 87] (by decide +kernel) (by decide +kernel)
set_option maxRecDepth 20000 in
theorem gX2_digest_X2_all : GoodIn wsX2_digest (wsV RX2 58 RX2 yX2_all wsX2_all) := goodIn_app (goodIn_of _ (by decide +kernel)) ggX2_digest_X2_all
set_option maxRecDepth 20000 in
theorem ggX2_digest_X2_rings : GoodIn wsX2_digest wsX2_rings := goodIn_r _ [65, 43, 44, 45, 12, 46, 4, 8, 7, 58, 59, 60, 61, 82, 83, 84, 85, 86, 87] (by decide +kernel) (by decide +kernel)
set_option maxRecDepth 20000 in
theorem gX2_digest_X2_rings : GoodIn wsX2_digest (wsV RX2 120 RX2 yX2_rings wsX2_rings) := goodIn_app (goodIn_of _ (by decide +kernel)) ggX2_digest_X2_rings
set_option maxRecDepth 20000 in
theorem ggX2_digest_X2_near : GoodIn wsX2_digest wsX2_near := goodIn_r _ [69, 4, 70, 71, 72, 12, 73, 3, 18, 19, 20, 21, 22, 82, 83, 84, 85, 86, 87] (by decide +kernel) (by decide +kernel)
set_option maxRecDepth 20000 in
theorem gX2_digest_X2_near : GoodIn wsX2_digest (wsV RX2 126 RX2 yX2_near wsX2_near) := goodIn_app (goodIn_of _ (by decide +kernel)) ggX2_digest_X2_near
set_option maxRecDepth 20000 in
theorem ggX2_digest_X2_begins : GoodIn wsX2_digest wsX2_begins := goodIn_r _ [77, 18, 19, 20, 12, 21, 22, 82, 83, 84, 85, 86, 87] (by decide +kernel) (by decide +kernel)
set_option maxRecDepth 20000 in
theorem gX2_digest_X2_begins : GoodIn wsX2_digest (wsV RX2 38 RX2 yX2_begins wsX2_begins) := goodIn_app (goodIn_of _ (by decide +kernel)) ggX2_digest_X2_begins
set_option maxRecDepth 20000 in
theorem ggX2_digest_X2_ends : GoodIn wsX2_digest wsX2_ends := goodIn_r _ [81, 74, 75, 76, 12, 77, 18, 19, 20, 21, 22, 82, 83, 84, 85, 86, 87] (by decide +kernel) (by decide +kernel)
set_option maxRecDepth 20000 in
theorem gX2_digest_X2_ends : GoodIn wsX2_digest (wsV RX2 101 RX2 yX2_ends wsX2_ends) := goodIn_app (goodIn_of _ (by decide +kernel)) ggX2_digest_X2_ends
theorem dX2_digest_0 : decode cX2_digest 0 = .ok (.aload_n 0, 1) := by decide +kernel
theorem dX2_digest_1 : decode cX2_digest 1 = .ok (.iconst 0, 1) := by decide +kernel
theorem dX2_digest_2 : decode cX2_digest 2 = .ok (.putfield 24, 3) := by decide +kernel
theorem dX2_digest_5 : decode cX2_digest 5 = .ok (.bipush 6, 2) := by decide +kernel
theorem dX2_digest_7 : decode cX2_digest 7 = .ok (.newarray .int, 2) := by decide +kernel
theorem dX2_digest_9 : decode cX2_digest 9 = .ok (.dup, 1) := by decide +kernel
theorem dX2_digest_10 : decode cX2_digest 10 = .ok (.iconst 0, 1) := by decide +kernel
theorem dX2_digest_11 : decode cX2_digest 11 = .ok (.aload_n 0, 1) := by decide +kernel
theorem dX2_digest_12 : decode cX2_digest 12 = .ok (.getfield 9, 3) := by decide +kernel
theorem dX2_digest_15 : decode cX2_digest 15 = .ok (.iastore, 1) := by decide +kernel
theorem dX2_digest_16 : decode cX2_digest 16 = .ok (.dup, 1) := by decide +kernel
theorem dX2_digest_17 : decode cX2_digest 17 = .ok (.iconst 1, 1) := by decide +kernel
theorem dX2_digest_18 : decode cX2_digest 18 = .ok (.aload_n 0, 1) := by decide +kernel
theorem dX2_digest_19 : decode cX2_digest 19 = .ok (.getfield 27, 3) := by decide +kernel
theorem dX2_digest_22 : decode cX2_digest 22 = .ok (.iastore, 1) := by decide +kernel
theorem dX2_digest_23 : decode cX2_digest 23 = .ok (.dup, 1) := by decide +kernel
theorem dX2_digest_24 : decode cX2_digest 24 = .ok (.iconst 2, 1) := by decide +kernel
theorem dX2_digest_25 : decode cX2_digest 25 = .ok (.aload_n 0, 1) := by decide +kernel
theorem dX2_digest_26 : decode cX2_digest 26 = .ok (.invokevirtual 107, 3) := by decide +kernel
theorem dX2_digest_29 : decode cX2_digest 29 = .ok (.iastore, 1) := by decide +kernel
theorem dX2_digest_30 : decode cX2_digest 30 = .ok (.dup, 1) := by decide +kernel
theorem dX2_digest_31 : decode cX2_digest 31 = .ok (.iconst 3, 1) := by decide +kernel
theorem dX2_digest_32 : decode cX2_digest 32 = .ok (.aload_n 0, 1) := by decide +kernel
theorem dX2_digest_33 : decode cX2_digest 33 = .ok (.invokevirtual 111, 3) := by decide +kernel
theorem dX2_digest_36 : decode cX2_digest 36 = .ok (.iastore, 1) := by decide +kernel
theorem dX2_digest_37 : decode cX2_digest 37 = .ok (.dup, 1) := by decide +kernel
theorem dX2_digest_38 : decode cX2_digest 38 = .ok (.iconst 4, 1) := by decide +kernel
theorem dX2_digest_39 : decode cX2_digest 39 = .ok (.aload_n 0, 1) := by decide +kernel
theorem dX2_digest_40 : decode cX2_digest 40 = .ok (.invokevirtual 114, 3) := by decide +kernel
theorem dX2_digest_43 : decode cX2_digest 43 = .ok (.iastore, 1) := by decide +kernel
theorem dX2_digest_44 : decode cX2_digest 44 = .ok (.dup, 1) := by decide +kernel
theorem dX2_digest_45 : decode cX2_digest 45 = .ok (.iconst 5, 1) := by decide +kernel
theorem dX2_digest_46 : decode cX2_digest 46 = .ok (.aload_n 0, 1) := by decide +kernel
theorem dX2_digest_47 : decode cX2_digest 47 = .ok (.invokevirtual 123, 3) := by decide +kernel
theorem dX2_digest_50 : decode cX2_digest 50 = .ok (.iastore, 1) := by decide +kernel
theorem dX2_digest_51 : decode cX2_digest 51 = .ok (.astore_n 1, 1) := by decide +kernel
theorem dX2_digest_52 : decode cX2_digest 52 = .ok (.ldc2_w 129, 3) := by decide +kernel
theorem dX2_digest_55 : decode cX2_digest 55 = .ok (.lstore_n 2, 1) := by decide +kernel
theorem dX2_digest_56 : decode cX2_digest 56 = .ok (.aload_n 1, 1) := by decide +kernel
theorem dX2_digest_57 : decode cX2_digest 57 = .ok (.astore 4, 2) := by decide +kernel
theorem dX2_digest_59 : decode cX2_digest 59 = .ok (.aload 4, 2) := by decide +kernel
theorem dX2_digest_61 : decode cX2_digest 61 = .ok (.arraylength, 1) := by decide +kernel
theorem dX2_digest_62 : decode cX2_digest 62 = .ok (.istore 5, 2) := by decide +kernel
theorem dX2_digest_64 : decode cX2_digest 64 = .ok (.iconst 0, 1) := by decide +kernel
theorem dX2_digest_65 : decode cX2_digest 65 = .ok (.istore 6, 2) := by decide +kernel
theorem dX2_digest_67 : decode cX2_digest 67 = .ok (.iload 6, 2) := by decide +kernel
theorem dX2_digest_69 : decode cX2_digest 69 = .ok (.iload 5, 2) := by decide +kernel
theorem dX2_digest_71 : decode cX2_digest 71 = .ok (.if_icmp .ge 26, 3) := by decide +kernel
theorem dX2_digest_74 : decode cX2_digest 74 = .ok (.aload 4, 2) := by decide +kernel
theorem dX2_digest_76 : decode cX2_digest 76 = .ok (.iload 6, 2) := by decide +kernel
theorem dX2_digest_78 : decode cX2_digest 78 = .ok (.iaload, 1) := by decide +kernel
theorem dX2_digest_79 : decode cX2_digest 79 = .ok (.istore 7, 2) := by decide +kernel
theorem dX2_digest_81 : decode cX2_digest 81 = .ok (.lload_n 2, 1) := by decide +kernel
theorem dX2_digest_82 : decode cX2_digest 82 = .ok (.ldc2_w 131, 3) := by decide +kernel
theorem dX2_digest_85 : decode cX2_digest 85 = .ok (.lmul, 1) := by decide +kernel
theorem dX2_digest_86 : decode cX2_digest 86 = .ok (.iload 7, 2) := by decide +kernel
theorem dX2_digest_88 : decode cX2_digest 88 = .ok (.i2l, 1) := by decide +kernel
theorem dX2_digest_89 : decode cX2_digest 89 = .ok (.ladd, 1) := by decide +kernel
theorem dX2_digest_90 : decode cX2_digest 90 = .ok (.lstore_n 2, 1) := by decide +kernel
theorem dX2_digest_91 : decode cX2_digest 91 = .ok (.iinc 6 1, 3) := by decide +kernel
theorem dX2_digest_94 : decode cX2_digest 94 = .ok (.goto (-27), 3) := by decide +kernel
theorem dX2_digest_97 : decode cX2_digest 97 = .ok (.iconst 0, 1) := by decide +kernel
theorem dX2_digest_98 : decode cX2_digest 98 = .ok (.istore 4, 2) := by decide +kernel
theorem dX2_digest_100 : decode cX2_digest 100 = .ok (.iload 4, 2) := by decide +kernel
theorem dX2_digest_102 : decode cX2_digest 102 = .ok (.aload_n 0, 1) := by decide +kernel
theorem dX2_digest_103 : decode cX2_digest 103 = .ok (.getfield 27, 3) := by decide +kernel
theorem dX2_digest_106 : decode cX2_digest 106 = .ok (.if_icmp .ge 202, 3) := by decide +kernel
theorem dX2_digest_109 : decode cX2_digest 109 = .ok (.aload_n 0, 1) := by decide +kernel
theorem dX2_digest_110 : decode cX2_digest 110 = .ok (.iload 4, 2) := by decide +kernel
theorem dX2_digest_112 : decode cX2_digest 112 = .ok (.iload 4, 2) := by decide +kernel
theorem dX2_digest_114 : decode cX2_digest 114 = .ok (.iconst 0, 1) := by decide +kernel
theorem dX2_digest_115 : decode cX2_digest 115 = .ok (.invokevirtual 88, 3) := by decide +kernel
theorem dX2_digest_118 : decode cX2_digest 118 = .ok (.istore 5, 2) := by decide +kernel
theorem dX2_digest_120 : decode cX2_digest 120 = .ok (.bipush 8, 2) := by decide +kernel
theorem dX2_digest_122 : decode cX2_digest 122 = .ok (.newarray .int, 2) := by decide +kernel
theorem dX2_digest_124 : decode cX2_digest 124 = .ok (.dup, 1) := by decide +kernel
theorem dX2_digest_125 : decode cX2_digest 125 = .ok (.iconst 0, 1) := by decide +kernel
theorem dX2_digest_126 : decode cX2_digest 126 = .ok (.iload 5, 2) := by decide +kernel
theorem dX2_digest_128 : decode cX2_digest 128 = .ok (.iastore, 1) := by decide +kernel
theorem dX2_digest_129 : decode cX2_digest 129 = .ok (.dup, 1) := by decide +kernel
theorem dX2_digest_130 : decode cX2_digest 130 = .ok (.iconst 1, 1) := by decide +kernel
theorem dX2_digest_131 : decode cX2_digest 131 = .ok (.aload_n 0, 1) := by decide +kernel
theorem dX2_digest_132 : decode cX2_digest 132 = .ok (.iload 4, 2) := by decide +kernel
theorem dX2_digest_134 : decode cX2_digest 134 = .ok (.invokevirtual 52, 3) := by decide +kernel
theorem dX2_digest_137 : decode cX2_digest 137 = .ok (.iastore, 1) := by decide +kernel
theorem dX2_digest_138 : decode cX2_digest 138 = .ok (.dup, 1) := by decide +kernel
theorem dX2_digest_139 : decode cX2_digest 139 = .ok (.iconst 2, 1) := by decide +kernel
theorem dX2_digest_140 : decode cX2_digest 140 = .ok (.aload_n 0, 1) := by decide +kernel
theorem dX2_digest_141 : decode cX2_digest 141 = .ok (.getfield 17, 3) := by decide +kernel
theorem dX2_digest_144 : decode cX2_digest 144 = .ok (.iload 4, 2) := by decide +kernel
theorem dX2_digest_146 : decode cX2_digest 146 = .ok (.iaload, 1) := by decide +kernel
theorem dX2_digest_147 : decode cX2_digest 147 = .ok (.iastore, 1) := by decide +kernel
theorem dX2_digest_148 : decode cX2_digest 148 = .ok (.dup, 1) := by decide +kernel
theorem dX2_digest_149 : decode cX2_digest 149 = .ok (.iconst 3, 1) := by decide +kernel
theorem dX2_digest_150 : decode cX2_digest 150 = .ok (.aload_n 0, 1) := by decide +kernel
theorem dX2_digest_151 : decode cX2_digest 151 = .ok (.getfield 21, 3) := by decide +kernel
theorem dX2_digest_154 : decode cX2_digest 154 = .ok (.iload 4, 2) := by decide +kernel
theorem dX2_digest_156 : decode cX2_digest 156 = .ok (.iaload, 1) := by decide +kernel
theorem dX2_digest_157 : decode cX2_digest 157 = .ok (.invokestatic 61, 3) := by decide +kernel
theorem dX2_digest_160 : decode cX2_digest 160 = .ok (.iastore, 1) := by decide +kernel
theorem dX2_digest_161 : decode cX2_digest 161 = .ok (.dup, 1) := by decide +kernel
theorem dX2_digest_162 : decode cX2_digest 162 = .ok (.iconst 4, 1) := by decide +kernel
theorem dX2_digest_163 : decode cX2_digest 163 = .ok (.aload_n 0, 1) := by decide +kernel
theorem dX2_digest_164 : decode cX2_digest 164 = .ok (.iload 4, 2) := by decide +kernel
theorem dX2_digest_166 : decode cX2_digest 166 = .ok (.invokevirtual 49, 3) := by decide +kernel
theorem dX2_digest_169 : decode cX2_digest 169 = .ok (.iastore, 1) := by decide +kernel
theorem dX2_digest_170 : decode cX2_digest 170 = .ok (.dup, 1) := by decide +kernel
theorem dX2_digest_171 : decode cX2_digest 171 = .ok (.iconst 5, 1) := by decide +kernel
theorem dX2_digest_172 : decode cX2_digest 172 = .ok (.aload_n 0, 1) := by decide +kernel
theorem dX2_digest_173 : decode cX2_digest 173 = .ok (.iconst 1, 1) := by decide +kernel
theorem dX2_digest_174 : decode cX2_digest 174 = .ok (.iload 4, 2) := by decide +kernel
theorem dX2_digest_176 : decode cX2_digest 176 = .ok (.ishl, 1) := by decide +kernel
theorem dX2_digest_177 : decode cX2_digest 177 = .ok (.invokevirtual 58, 3) := by decide +kernel
theorem dX2_digest_180 : decode cX2_digest 180 = .ok (.invokestatic 61, 3) := by decide +kernel
theorem dX2_digest_183 : decode cX2_digest 183 = .ok (.iastore, 1) := by decide +kernel
theorem dX2_digest_184 : decode cX2_digest 184 = .ok (.dup, 1) := by decide +kernel
theorem dX2_digest_185 : decode cX2_digest 185 = .ok (.bipush 6, 2) := by decide +kernel
theorem dX2_digest_187 : decode cX2_digest 187 = .ok (.aload_n 0, 1) := by decide +kernel
theorem dX2_digest_188 : decode cX2_digest 188 = .ok (.iload 4, 2) := by decide +kernel
theorem dX2_digest_190 : decode cX2_digest 190 = .ok (.invokevirtual 120, 3) := by decide +kernel
theorem dX2_digest_193 : decode cX2_digest 193 = .ok (.ifCond .eq 7, 3) := by decide +kernel
theorem dX2_digest_196 : decode cX2_digest 196 = .ok (.iconst 1, 1) := by decide +kernel
theorem dX2_digest_197 : decode cX2_digest 197 = .ok (.goto 4, 3) := by decide +kernel
theorem dX2_digest_200 : decode cX2_digest 200 = .ok (.iconst 0, 1) := by decide +kernel
theorem dX2_digest_201 : decode cX2_digest 201 = .ok (.iastore, 1) := by decide +kernel
theorem dX2_digest_202 : decode cX2_digest 202 = .ok (.dup, 1) := by decide +kernel
theorem dX2_digest_203 : decode cX2_digest 203 = .ok (.bipush 7, 2) := by decide +kernel
theorem dX2_digest_205 : decode cX2_digest 205 = .ok (.aload_n 0, 1) := by decide +kernel
theorem dX2_digest_206 : decode cX2_digest 206 = .ok (.iload 4, 2) := by decide +kernel
theorem dX2_digest_208 : decode cX2_digest 208 = .ok (.invokevirtual 126, 3) := by decide +kernel
theorem dX2_digest_211 : decode cX2_digest 211 = .ok (.iastore, 1) := by decide +kernel
theorem dX2_digest_212 : decode cX2_digest 212 = .ok (.astore 6, 2) := by decide +kernel
theorem dX2_digest_214 : decode cX2_digest 214 = .ok (.aload 6, 2) := by decide +kernel
theorem dX2_digest_216 : decode cX2_digest 216 = .ok (.astore 7, 2) := by decide +kernel
theorem dX2_digest_218 : decode cX2_digest 218 = .ok (.aload 7, 2) := by decide +kernel
theorem dX2_digest_220 : decode cX2_digest 220 = .ok (.arraylength, 1) := by decide +kernel
theorem dX2_digest_221 : decode cX2_digest 221 = .ok (.istore 8, 2) := by decide +kernel
theorem dX2_digest_223 : decode cX2_digest 223 = .ok (.iconst 0, 1) := by decide +kernel
theorem dX2_digest_224 : decode cX2_digest 224 = .ok (.istore 9, 2) := by decide +kernel
theorem dX2_digest_226 : decode cX2_digest 226 = .ok (.iload 9, 2) := by decide +kernel
theorem dX2_digest_228 : decode cX2_digest 228 = .ok (.iload 8, 2) := by decide +kernel
theorem dX2_digest_230 : decode cX2_digest 230 = .ok (.if_icmp .ge 26, 3) := by decide +kernel
theorem dX2_digest_233 : decode cX2_digest 233 = .ok (.aload 7, 2) := by decide +kernel
theorem dX2_digest_235 : decode cX2_digest 235 = .ok (.iload 9, 2) := by decide +kernel
theorem dX2_digest_237 : decode cX2_digest 237 = .ok (.iaload, 1) := by decide +kernel
theorem dX2_digest_238 : decode cX2_digest 238 = .ok (.istore 10, 2) := by decide +kernel
theorem dX2_digest_240 : decode cX2_digest 240 = .ok (.lload_n 2, 1) := by decide +kernel
theorem dX2_digest_241 : decode cX2_digest 241 = .ok (.ldc2_w 131, 3) := by decide +kernel
theorem dX2_digest_244 : decode cX2_digest 244 = .ok (.lmul, 1) := by decide +kernel
theorem dX2_digest_245 : decode cX2_digest 245 = .ok (.iload 10, 2) := by decide +kernel
theorem dX2_digest_247 : decode cX2_digest 247 = .ok (.i2l, 1) := by decide +kernel
theorem dX2_digest_248 : decode cX2_digest 248 = .ok (.ladd, 1) := by decide +kernel
theorem dX2_digest_249 : decode cX2_digest 249 = .ok (.lstore_n 2, 1) := by decide +kernel
theorem dX2_digest_250 : decode cX2_digest 250 = .ok (.iinc 9 1, 3) := by decide +kernel
theorem dX2_digest_253 : decode cX2_digest 253 = .ok (.goto (-27), 3) := by decide +kernel
theorem dX2_digest_256 : decode cX2_digest 256 = .ok (.iconst 0, 1) := by decide +kernel
theorem dX2_digest_257 : decode cX2_digest 257 = .ok (.istore 7, 2) := by decide +kernel
theorem dX2_digest_259 : decode cX2_digest 259 = .ok (.iload 7, 2) := by decide +kernel
theorem dX2_digest_261 : decode cX2_digest 261 = .ok (.iload 5, 2) := by decide +kernel
theorem dX2_digest_263 : decode cX2_digest 263 = .ok (.if_icmp .ge 39, 3) := by decide +kernel
theorem dX2_digest_266 : decode cX2_digest 266 = .ok (.lload_n 2, 1) := by decide +kernel
theorem dX2_digest_267 : decode cX2_digest 267 = .ok (.ldc2_w 131, 3) := by decide +kernel
theorem dX2_digest_270 : decode cX2_digest 270 = .ok (.lmul, 1) := by decide +kernel
theorem dX2_digest_271 : decode cX2_digest 271 = .ok (.aload_n 0, 1) := by decide +kernel
theorem dX2_digest_272 : decode cX2_digest 272 = .ok (.iload 4, 2) := by decide +kernel
theorem dX2_digest_274 : decode cX2_digest 274 = .ok (.iload 7, 2) := by decide +kernel
theorem dX2_digest_276 : decode cX2_digest 276 = .ok (.invokevirtual 38, 3) := by decide +kernel
theorem dX2_digest_279 : decode cX2_digest 279 = .ok (.i2l, 1) := by decide +kernel
theorem dX2_digest_280 : decode cX2_digest 280 = .ok (.ladd, 1) := by decide +kernel
theorem dX2_digest_281 : decode cX2_digest 281 = .ok (.ldc2_w 131, 3) := by decide +kernel
theorem dX2_digest_284 : decode cX2_digest 284 = .ok (.lmul, 1) := by decide +kernel
theorem dX2_digest_285 : decode cX2_digest 285 = .ok (.aload_n 0, 1) := by decide +kernel
theorem dX2_digest_286 : decode cX2_digest 286 = .ok (.iload 4, 2) := by decide +kernel
theorem dX2_digest_288 : decode cX2_digest 288 = .ok (.iload 7, 2) := by decide +kernel
theorem dX2_digest_290 : decode cX2_digest 290 = .ok (.invokevirtual 101, 3) := by decide +kernel
theorem dX2_digest_293 : decode cX2_digest 293 = .ok (.i2l, 1) := by decide +kernel
theorem dX2_digest_294 : decode cX2_digest 294 = .ok (.ladd, 1) := by decide +kernel
theorem dX2_digest_295 : decode cX2_digest 295 = .ok (.lstore_n 2, 1) := by decide +kernel
theorem dX2_digest_296 : decode cX2_digest 296 = .ok (.iinc 7 1, 3) := by decide +kernel
theorem dX2_digest_299 : decode cX2_digest 299 = .ok (.goto (-40), 3) := by decide +kernel
theorem dX2_digest_302 : decode cX2_digest 302 = .ok (.iinc 4 1, 3) := by decide +kernel
theorem dX2_digest_305 : decode cX2_digest 305 = .ok (.goto (-205), 3) := by decide +kernel
theorem dX2_digest_308 : decode cX2_digest 308 = .ok (.lload_n 2, 1) := by decide +kernel
theorem dX2_digest_309 : decode cX2_digest 309 = .ok (.lreturn, 1) := by decide +kernel
end
section
theorem dJ6_bitCount_0f7a4_0 : decode cJ6_bitCount_0f7a4 0 = .ok (.iload_n 0, 1) := by decide +kernel
theorem dJ6_bitCount_0f7a4_1 : decode cJ6_bitCount_0f7a4 1 = .ok (.iload_n 0, 1) := by decide +kernel
theorem dJ6_bitCount_0f7a4_2 : decode cJ6_bitCount_0f7a4 2 = .ok (.iconst 1, 1) := by decide +kernel
theorem dJ6_bitCount_0f7a4_3 : decode cJ6_bitCount_0f7a4 3 = .ok (.iushr, 1) := by decide +kernel
theorem dJ6_bitCount_0f7a4_4 : decode cJ6_bitCount_0f7a4 4 = .ok (.ldc_w 265, 3) := by decide +kernel
theorem dJ6_bitCount_0f7a4_7 : decode cJ6_bitCount_0f7a4 7 = .ok (.iand, 1) := by decide +kernel
theorem dJ6_bitCount_0f7a4_8 : decode cJ6_bitCount_0f7a4 8 = .ok (.isub, 1) := by decide +kernel
theorem dJ6_bitCount_0f7a4_9 : decode cJ6_bitCount_0f7a4 9 = .ok (.istore_n 0, 1) := by decide +kernel
theorem dJ6_bitCount_0f7a4_10 : decode cJ6_bitCount_0f7a4 10 = .ok (.iload_n 0, 1) := by decide +kernel
theorem dJ6_bitCount_0f7a4_11 : decode cJ6_bitCount_0f7a4 11 = .ok (.ldc_w 266, 3) := by decide +kernel
theorem dJ6_bitCount_0f7a4_14 : decode cJ6_bitCount_0f7a4 14 = .ok (.iand, 1) := by decide +kernel
theorem dJ6_bitCount_0f7a4_15 : decode cJ6_bitCount_0f7a4 15 = .ok (.iload_n 0, 1) := by decide +kernel
theorem dJ6_bitCount_0f7a4_16 : decode cJ6_bitCount_0f7a4 16 = .ok (.iconst 2, 1) := by decide +kernel
theorem dJ6_bitCount_0f7a4_17 : decode cJ6_bitCount_0f7a4 17 = .ok (.iushr, 1) := by decide +kernel
theorem dJ6_bitCount_0f7a4_18 : decode cJ6_bitCount_0f7a4 18 = .ok (.ldc_w 266, 3) := by decide +kernel
theorem dJ6_bitCount_0f7a4_21 : decode cJ6_bitCount_0f7a4 21 = .ok (.iand, 1) := by decide +kernel
theorem dJ6_bitCount_0f7a4_22 : decode cJ6_bitCount_0f7a4 22 = .ok (.iadd, 1) := by decide +kernel
theorem dJ6_bitCount_0f7a4_23 : decode cJ6_bitCount_0f7a4 23 = .ok (.istore_n 0, 1) := by decide +kernel
theorem dJ6_bitCount_0f7a4_24 : decode cJ6_bitCount_0f7a4 24 = .ok (.iload_n 0, 1) := by decide +kernel
theorem dJ6_bitCount_0f7a4_25 : decode cJ6_bitCount_0f7a4 25 = .ok (.iload_n 0, 1) := by decide +kernel
theorem dJ6_bitCount_0f7a4_26 : decode cJ6_bitCount_0f7a4 26 = .ok (.iconst 4, 1) := by decide +kernel
theorem dJ6_bitCount_0f7a4_27 : decode cJ6_bitCount_0f7a4 27 = .ok (.iushr, 1) := by decide +kernel
theorem dJ6_bitCount_0f7a4_28 : decode cJ6_bitCount_0f7a4 28 = .ok (.iadd, 1) := by decide +kernel
theorem dJ6_bitCount_0f7a4_29 : decode cJ6_bitCount_0f7a4 29 = .ok (.ldc_w 267, 3) := by decide +kernel
theorem dJ6_bitCount_0f7a4_32 : decode cJ6_bitCount_0f7a4 32 = .ok (.iand, 1) := by decide +kernel
theorem dJ6_bitCount_0f7a4_33 : decode cJ6_bitCount_0f7a4 33 = .ok (.istore_n 0, 1) := by decide +kernel
theorem dJ6_bitCount_0f7a4_34 : decode cJ6_bitCount_0f7a4 34 = .ok (.iload_n 0, 1) := by decide +kernel
theorem dJ6_bitCount_0f7a4_35 : decode cJ6_bitCount_0f7a4 35 = .ok (.iload_n 0, 1) := by decide +kernel
theorem dJ6_bitCount_0f7a4_36 : decode cJ6_bitCount_0f7a4 36 = .ok (.bipush 8, 2) := by decide +kernel
theorem dJ6_bitCount_0f7a4_38 : decode cJ6_bitCount_0f7a4 38 = .ok (.iushr, 1) := by decide +kernel
theorem dJ6_bitCount_0f7a4_39 : decode cJ6_bitCount_0f7a4 39 = .ok (.iadd, 1) := by decide +kernel
theorem dJ6_bitCount_0f7a4_40 : decode cJ6_bitCount_0f7a4 40 = .ok (.istore_n 0, 1) := by decide +kernel
theorem dJ6_bitCount_0f7a4_41 : decode cJ6_bitCount_0f7a4 41 = .ok (.iload_n 0, 1) := by decide +kernel
theorem dJ6_bitCount_0f7a4_42 : decode cJ6_bitCount_0f7a4 42 = .ok (.iload_n 0, 1) := by decide +kernel
theorem dJ6_bitCount_0f7a4_43 : decode cJ6_bitCount_0f7a4 43 = .ok (.bipush 16, 2) := by decide +kernel
theorem dJ6_bitCount_0f7a4_45 : decode cJ6_bitCount_0f7a4 45 = .ok (.iushr, 1) := by decide +kernel
theorem dJ6_bitCount_0f7a4_46 : decode cJ6_bitCount_0f7a4 46 = .ok (.iadd, 1) := by decide +kernel
theorem dJ6_bitCount_0f7a4_47 : decode cJ6_bitCount_0f7a4 47 = .ok (.istore_n 0, 1) := by decide +kernel
theorem dJ6_bitCount_0f7a4_48 : decode cJ6_bitCount_0f7a4 48 = .ok (.iload_n 0, 1) := by decide +kernel
theorem dJ6_bitCount_0f7a4_49 : decode cJ6_bitCount_0f7a4 49 = .ok (.bipush 63, 2) := by decide +kernel
theorem dJ6_bitCount_0f7a4_51 : decode cJ6_bitCount_0f7a4 51 = .ok (.iand, 1) := by decide +kernel
theorem dJ6_bitCount_0f7a4_52 : decode cJ6_bitCount_0f7a4 52 = .ok (.ireturn, 1) := by decide +kernel
theorem dJ9_max_7cf53_0 : decode cJ9_max_7cf53 0 = .ok (.iload_n 0, 1) := by decide +kernel
theorem dJ9_max_7cf53_1 : decode cJ9_max_7cf53 1 = .ok (.iload_n 1, 1) := by decide +kernel
theorem dJ9_max_7cf53_2 : decode cJ9_max_7cf53 2 = .ok (.if_icmp .lt 7, 3) := by decide +kernel
theorem dJ9_max_7cf53_5 : decode cJ9_max_7cf53 5 = .ok (.iload_n 0, 1) := by decide +kernel
theorem dJ9_max_7cf53_6 : decode cJ9_max_7cf53 6 = .ok (.goto 4, 3) := by decide +kernel
theorem dJ9_max_7cf53_9 : decode cJ9_max_7cf53 9 = .ok (.iload_n 1, 1) := by decide +kernel
theorem dJ9_max_7cf53_10 : decode cJ9_max_7cf53 10 = .ok (.ireturn, 1) := by decide +kernel
theorem dJ9_min_7cf53_0 : decode cJ9_min_7cf53 0 = .ok (.iload_n 0, 1) := by decide +kernel
theorem dJ9_min_7cf53_1 : decode cJ9_min_7cf53 1 = .ok (.iload_n 1, 1) := by decide +kernel
theorem dJ9_min_7cf53_2 : decode cJ9_min_7cf53 2 = .ok (.if_icmp .gt 7, 3) := by decide +kernel
theorem dJ9_min_7cf53_5 : decode cJ9_min_7cf53 5 = .ok (.iload_n 0, 1) := by decide +kernel
theorem dJ9_min_7cf53_6 : decode cJ9_min_7cf53 6 = .ok (.goto 4, 3) := by decide +kernel
theorem dJ9_min_7cf53_9 : decode cJ9_min_7cf53 9 = .ok (.iload_n 1, 1) := by decide +kernel
theorem dJ9_min_7cf53_10 : decode cJ9_min_7cf53 10 = .ok (.ireturn, 1) := by decide +kernel
set_option maxRecDepth 20000 in
theorem ggL_addHeading_X1_addHeading : GoodIn wsL_addHeading wsX1_addHeading := goodIn_ca (goodIn_r _ [6, 7, 8, 9, 10, 11, 12, 13, 14, 15, 16, 17, 18, 19] (by decide +kernel) (by decide +kernel)) (goodIn_sub (fun _ h => List.mem_cons_of_mem _ (List.mem_append_right _ h)) (by decide +kernel))
set_option maxRecDepth 20000 in
theorem gL_addHeading_X1_addHeading : GoodIn wsL_addHeading (wsV RL 7 RX1 yX1_addHeading wsX1_addHeading) := goodIn_app (goodIn_of _ (by decide +kernel)) ggL_addHeading_X1_addHeading
theorem dL_addHeading_0 : decode cL_addHeading 0 = .ok (.aload_n 1, 1) := by decide +kernel
theorem dL_addHeading_1 : decode cL_addHeading 1 = .ok (.iconst 0, 1) := by decide +kernel
theorem dL_addHeading_2 : decode cL_addHeading 2 = .ok (.aload_n 0, 1) := by decide +kernel
theorem dL_addHeading_3 : decode cL_addHeading 3 = .ok (.invokevirtual 7, 3) := by decide +kernel
theorem dL_addHeading_6 : decode cL_addHeading 6 = .ok (.i2l, 1) := by decide +kernel
theorem dL_addHeading_7 : decode cL_addHeading 7 = .ok (.lastore, 1) := by decide +kernel
theorem dL_addHeading_8 : decode cL_addHeading 8 = .ok (.goto 6, 3) := by decide +kernel
theorem dL_addHeading_11 : decode cL_addHeading 11 = .ok (.astore_n 2, 1) := by decide +kernel
theorem dL_addHeading_12 : decode cL_addHeading 12 = .ok (.iconst 1, 1) := by decide +kernel
theorem dL_addHeading_13 : decode cL_addHeading 13 = .ok (.ireturn, 1) := by decide +kernel
theorem dL_addHeading_14 : decode cL_addHeading 14 = .ok (.iconst 0, 1) := by decide +kernel
theorem dL_addHeading_15 : decode cL_addHeading 15 = .ok (.ireturn, 1) := by decide +kernel
set_option maxRecDepth 20000 in
theorem ggL_addPages_X1_addPages : GoodIn wsL_addPages wsX1_addPages := goodIn_ca (goodIn_ca (goodIn_ca (goodIn_r _ [8, 9, 10, 11, 12, 13, 14, 15, 7, 16, 17, 18, 19, 20, 21, 22, 23, 24, 25, 26, 27, 28, 29, 30, 31, 32, 33, 34, 35, 36, 37, 38, 39, 40, 41, 42, 43, 44, 45, 46, 47, 48, 49, 50, 51, 52, 53, 54, 55, 56, 57, 58, 59, 60, 61, 62, 63, 64, 65, 66, 67, 68, 69, 70, 71, 72, 73, 74, 75, 76, 77, 78, 79, 80, 81, 82, 83, 84, 85, 86, 87, 88, 89, 90, 91, 92, 93, 94, 95, 96, 97] (by decide +kernel) (by decide +kernel)) (goodIn_sub (fun _ h => List.mem_cons_of_mem _ (List.mem_append_left _ (List.mem_append_left _ (List.mem_append_right _ h)))) (by decide +kernel))) (goodIn_sub (fun _ h => List.mem_cons_of_mem _ (List.mem_append_left _ (List.mem_append_right _ h))) (by decide +kernel))) (goodIn_sub (fun _ h => List.mem_cons_of_mem _ (List.mem_append_right _ h)) (by decide +kernel))
set_option maxRecDepth 20000 in
theorem gL_addPages_X1_addPages : GoodIn wsL_addPages (wsV RL 15 RX1 yX1_addPages wsX1_addPages) := goodIn_app (goodIn_of _ (by decide +kernel)) ggL_addPages_X1_addPages
theorem dL_addPages_0 : decode cL_addPages 0 = .ok (.aload 4, 2) := by decide +kernel
theorem dL_addPages_2 : decode cL_addPages 2 = .ok (.iconst 0, 1) := by decide +kernel
theorem dL_addPages_3 : decode cL_addPages 3 = .ok (.aload_n 0, 1) := by decide +kernel
theorem dL_addPages_4 : decode cL_addPages 4 = .ok (.iload_n 1, 1) := by decide +kernel
theorem dL_addPages_5 : decode cL_addPages 5 = .ok (.iload_n 2, 1) := by decide +kernel
theorem dL_addPages_6 : decode cL_addPages 6 = .ok (.iload_n 3, 1) := by decide +kernel
theorem dL_addPages_7 : decode cL_addPages 7 = .ok (.invokevirtual 15, 3) := by decide +kernel
theorem dL_addPages_10 : decode cL_addPages 10 = .ok (.i2l, 1) := by decide +kernel
theorem dL_addPages_11 : decode cL_addPages 11 = .ok (.lastore, 1) := by decide +kernel
theorem dL_addPages_12 : decode cL_addPages 12 = .ok (.goto 15, 3) := by decide +kernel
theorem dL_addPages_15 : decode cL_addPages 15 = .ok (.astore 5, 2) := by decide +kernel
theorem dL_addPages_17 : decode cL_addPages 17 = .ok (.iconst 1, 1) := by decide +kernel
theorem dL_addPages_18 : decode cL_addPages 18 = .ok (.ireturn, 1) := by decide +kernel
theorem dL_addPages_19 : decode cL_addPages 19 = .ok (.astore 5, 2) := by decide +kernel
theorem dL_addPages_21 : decode cL_addPages 21 = .ok (.iconst 2, 1) := by decide +kernel
theorem dL_addPages_22 : decode cL_addPages 22 = .ok (.ireturn, 1) := by decide +kernel
theorem dL_addPages_23 : decode cL_addPages 23 = .ok (.astore 5, 2) := by decide +kernel
theorem dL_addPages_25 : decode cL_addPages 25 = .ok (.iconst 3, 1) := by decide +kernel
theorem dL_addPages_26 : decode cL_addPages 26 = .ok (.ireturn, 1) := by decide +kernel
theorem dL_addPages_27 : decode cL_addPages 27 = .ok (.iconst 0, 1) := by decide +kernel
theorem dL_addPages_28 : decode cL_addPages 28 = .ok (.ireturn, 1) := by decide +kernel
set_option maxRecDepth 20000 in
theorem ggL_takePages_X1_takePages : GoodIn wsL_takePages wsX1_takePages := goodIn_ca (goodIn_ca (goodIn_ca (goodIn_r _ [8, 9, 10, 11, 12, 7, 13, 14, 15, 16, 17, 18, 19, 20, 21, 22, 23, 24, 25, 26, 27, 28, 29, 30, 31, 32, 33, 34, 35, 36, 37, 38, 39, 40, 41, 42, 43, 44, 45, 46, 47, 48, 49, 50, 51, 52, 53, 54, 55, 56, 57, 58, 59, 60, 61, 62, 63, 64, 65, 66, 67, 68, 69, 70, 71, 72, 73, 74, 75, 76, 77, 78, 79, 80, 81, 82, 83, 84, 85, 86, 87, 88, 89, 90] (by decide +kernel) (by decide +kernel)) (goodIn_sub (fun _ h => List.mem_cons_of_mem _ (List.mem_append_left _ (List.mem_append_left _ (List.mem_append_right _ h)))) (by decide +kernel))) (goodIn_sub (fun _ h => List.mem_cons_of_mem _ (List.mem_append_left _ (List.mem_append_right _ h))) (by decide +kernel))) (goodIn_sub (fun _ h => List.mem_cons_of_mem _ (List.mem_append_right _ h)) (by decide +kernel))
set_option maxRecDepth 20000 in
theorem gL_takePages_X1_takePages : GoodIn wsL_takePages (wsV RL 23 RX1 yX1_takePages wsX1_takePages) := goodIn_app (goodIn_of _ (by decide +kernel)) ggL_takePages_X1_takePages
theorem dL_takePages_0 : decode cL_takePages 0 = .ok (.aload 4, 2) := by decide +kernel
theorem dL_takePages_2 : decode cL_takePages 2 = .ok (.iconst 0, 1) := by decide +kernel
theorem dL_takePages_3 : decode cL_takePages 3 = .ok (.aload_n 0, 1) := by decide +kernel
theorem dL_takePages_4 : decode cL_takePages 4 = .ok (.iload_n 1, 1) := by decide +kernel
theorem dL_takePages_5 : decode cL_takePages 5 = .ok (.iload_n 2, 1) := by decide +kernel
theorem dL_takePages_6 : decode cL_takePages 6 = .ok (.iload_n 3, 1) := by decide +kernel
theorem dL_takePages_7 : decode cL_takePages 7 = .ok (.invokevirtual 23, 3) := by decide +kernel
theorem dL_takePages_10 : decode cL_takePages 10 = .ok (.i2l, 1) := by decide +kernel
theorem dL_takePages_11 : decode cL_takePages 11 = .ok (.lastore, 1) := by decide +kernel
theorem dL_takePages_12 : decode cL_takePages 12 = .ok (.goto 15, 3) := by decide +kernel
theorem dL_takePages_15 : decode cL_takePages 15 = .ok (.astore 5, 2) := by decide +kernel
theorem dL_takePages_17 : decode cL_takePages 17 = .ok (.iconst 1, 1) := by decide +kernel
theorem dL_takePages_18 : decode cL_takePages 18 = .ok (.ireturn, 1) := by decide +kernel
theorem dL_takePages_19 : decode cL_takePages 19 = .ok (.astore 5, 2) := by decide +kernel
theorem dL_takePages_21 : decode cL_takePages 21 = .ok (.iconst 2, 1) := by decide +kernel
theorem dL_takePages_22 : decode cL_takePages 22 = .ok (.ireturn, 1) := by decide +kernel
theorem dL_takePages_23 : decode cL_takePages 23 = .ok (.astore 5, 2) := by decide +kernel
theorem dL_takePages_25 : decode cL_takePages 25 = .ok (.iconst 3, 1) := by decide +kernel
theorem dL_takePages_26 : decode cL_takePages 26 = .ok (.ireturn, 1) := by decide +kernel
theorem dL_takePages_27 : decode cL_takePages 27 = .ok (.iconst 0, 1) := by decide +kernel
theorem dL_takePages_28 : decode cL_takePages 28 = .ok (.ireturn, 1) := by decide +kernel
set_option maxRecDepth 20000 in
theorem ggL_setSee_X1_setSee : GoodIn wsL_setSee wsX1_setSee := goodIn_ca (goodIn_ca (goodIn_ca (goodIn_r _ [8, 9, 10, 11, 12, 7, 13, 14, 15, 16, 17, 18, 19, 20, 21, 22, 23, 24, 25, 26, 27, 28, 29, 30, 31, 32, 33, 34, 35, 36, 37, 38, 39, 40, 41, 42, 43, 44, 45, 46, 47, 48, 49, 50, 51, 52, 53, 54, 55, 56] (by decide +kernel) (by decide +kernel)) (goodIn_sub (fun _ h => List.mem_cons_of_mem _ (List.mem_append_left _ (List.mem_append_left _ (List.mem_append_right _ h)))) (by decide +kernel))) (goodIn_sub (fun _ h => List.mem_cons_of_mem _ (List.mem_append_left _ (List.mem_append_right _ h))) (by decide +kernel))) (goodIn_sub (fun _ h => List.mem_cons_of_mem _ (List.mem_append_right _ h)) (by decide +kernel))
set_option maxRecDepth 20000 in
theorem gL_setSee_X1_setSee : GoodIn wsL_setSee (wsV RL 26 RX1 yX1_setSee wsX1_setSee) := goodIn_app (goodIn_of _ (by decide +kernel)) ggL_setSee_X1_setSee
theorem dL_setSee_0 : decode cL_setSee 0 = .ok (.aload_n 3, 1) := by decide +kernel
theorem dL_setSee_1 : decode cL_setSee 1 = .ok (.iconst 0, 1) := by decide +kernel
theorem dL_setSee_2 : decode cL_setSee 2 = .ok (.aload_n 0, 1) := by decide +kernel
theorem dL_setSee_3 : decode cL_setSee 3 = .ok (.iload_n 1, 1) := by decide +kernel
theorem dL_setSee_4 : decode cL_setSee 4 = .ok (.iload_n 2, 1) := by decide +kernel
theorem dL_setSee_5 : decode cL_setSee 5 = .ok (.invokevirtual 26, 3) := by decide +kernel
theorem dL_setSee_8 : decode cL_setSee 8 = .ok (.i2l, 1) := by decide +kernel
theorem dL_setSee_9 : decode cL_setSee 9 = .ok (.lastore, 1) := by decide +kernel
theorem dL_setSee_10 : decode cL_setSee 10 = .ok (.goto 15, 3) := by decide +kernel
theorem dL_setSee_13 : decode cL_setSee 13 = .ok (.astore 4, 2) := by decide +kernel
theorem dL_setSee_15 : decode cL_setSee 15 = .ok (.iconst 1, 1) := by decide +kernel
theorem dL_setSee_16 : decode cL_setSee 16 = .ok (.ireturn, 1) := by decide +kernel
theorem dL_setSee_17 : decode cL_setSee 17 = .ok (.astore 4, 2) := by decide +kernel
theorem dL_setSee_19 : decode cL_setSee 19 = .ok (.iconst 2, 1) := by decide +kernel
theorem dL_setSee_20 : decode cL_setSee 20 = .ok (.ireturn, 1) := by decide +kernel
theorem dL_setSee_21 : decode cL_setSee 21 = .ok (.astore 4, 2) := by decide +kernel
theorem dL_setSee_23 : decode cL_setSee 23 = .ok (.iconst 3, 1) := by decide +kernel
theorem dL_setSee_24 : decode cL_setSee 24 = .ok (.ireturn, 1) := by decide +kernel
theorem dL_setSee_25 : decode cL_setSee 25 = .ok (.iconst 0, 1) := by decide +kernel
theorem dL_setSee_26 : decode cL_setSee 26 = .ok (.ireturn, 1) := by decide +kernel
set_option maxRecDepth 20000 in
theorem ggL_turnSeeAlso_X1_turnSeeAlso : GoodIn wsL_turnSeeAlso wsX1_turnSeeAlso := goodIn_ca (goodIn_ca (goodIn_ca (goodIn_r _ [8, 9, 10, 11, 12, 13, 14, 7, 15, 16, 17, 18, 19, 20, 21, 22, 23, 24, 25, 26, 27, 28, 29, 30, 31, 32, 33, 34, 35, 36, 37, 38, 39, 40, 41, 42, 43, 44, 45, 46, 47] (by decide +kernel) (by decide +kernel)) (goodIn_sub (fun _ h => List.mem_cons_of_mem _ (List.mem_append_left _ (List.mem_append_left _ (List.mem_append_right _ h)))) (by decide +kernel))) (goodIn_sub (fun _ h => List.mem_cons_of_mem _ (List.mem_append_left _ (List.mem_append_right _ h))) (by decide +kernel))) (goodIn_sub (fun _ h => List.mem_cons_of_mem _ (List.mem_append_right _ h)) (by decide +kernel))
set_option maxRecDepth 20000 in
theorem gL_turnSeeAlso_X1_turnSeeAlso : GoodIn wsL_turnSeeAlso (wsV RL 30 RX1 yX1_turnSeeAlso wsX1_turnSeeAlso) := goodIn_app (goodIn_of _ (by decide +kernel)) ggL_turnSeeAlso_X1_turnSeeAlso
theorem dL_turnSeeAlso_0 : decode cL_turnSeeAlso 0 = .ok (.aload_n 3, 1) := by decide +kernel
theorem dL_turnSeeAlso_1 : decode cL_turnSeeAlso 1 = .ok (.iconst 0, 1) := by decide +kernel
theorem dL_turnSeeAlso_2 : decode cL_turnSeeAlso 2 = .ok (.aload_n 0, 1) := by decide +kernel
theorem dL_turnSeeAlso_3 : decode cL_turnSeeAlso 3 = .ok (.iload_n 1, 1) := by decide +kernel
theorem dL_turnSeeAlso_4 : decode cL_turnSeeAlso 4 = .ok (.iload_n 2, 1) := by decide +kernel
theorem dL_turnSeeAlso_5 : decode cL_turnSeeAlso 5 = .ok (.invokevirtual 30, 3) := by decide +kernel
theorem dL_turnSeeAlso_8 : decode cL_turnSeeAlso 8 = .ok (.i2l, 1) := by decide +kernel
theorem dL_turnSeeAlso_9 : decode cL_turnSeeAlso 9 = .ok (.lastore, 1) := by decide +kernel
theorem dL_turnSeeAlso_10 : decode cL_turnSeeAlso 10 = .ok (.goto 15, 3) := by decide +kernel
theorem dL_turnSeeAlso_13 : decode cL_turnSeeAlso 13 = .ok (.astore 4, 2) := by decide +kernel
theorem dL_turnSeeAlso_15 : decode cL_turnSeeAlso 15 = .ok (.iconst 1, 1) := by decide +kernel
theorem dL_turnSeeAlso_16 : decode cL_turnSeeAlso 16 = .ok (.ireturn, 1) := by decide +kernel
theorem dL_turnSeeAlso_17 : decode cL_turnSeeAlso 17 = .ok (.astore 4, 2) := by decide +kernel
theorem dL_turnSeeAlso_19 : decode cL_turnSeeAlso 19 = .ok (.iconst 2, 1) := by decide +kernel
theorem dL_turnSeeAlso_20 : decode cL_turnSeeAlso 20 = .ok (.ireturn, 1) := by decide +kernel
theorem dL_turnSeeAlso_21 : decode cL_turnSeeAlso 21 = .ok (.astore 4, 2) := by decide +kernel
theorem dL_turnSeeAlso_23 : decode cL_turnSeeAlso 23 = .ok (.iconst 3, 1) := by decide +kernel
theorem dL_turnSeeAlso_24 : decode cL_turnSeeAlso 24 = .ok (.ireturn, 1) := by decide +kernel
theorem dL_turnSeeAlso_25 : decode cL_turnSeeAlso 25 = .ok (.iconst 0, 1) := by decide +kernel
theorem dL_turnSeeAlso_26 : decode cL_turnSeeAlso 26 = .ok (.ireturn, 1) := by decide +kernel
set_option maxRecDepth 20000 in
theorem ggL_putIn_X1_putIn : GoodIn wsL_putIn wsX1_putIn := goodIn_ca (goodIn_ca (goodIn_r _ [7, 8, 9, 10, 11, 12, 13, 14, 15, 16, 6, 17, 18, 19, 20, 21, 22, 23, 24, 25, 26, 27, 28, 29, 30, 31, 32, 33, 34, 35, 36, 37, 38, 39, 40, 41, 42, 43] (by decide +kernel) (by decide +kernel)) (goodIn_sub (fun _ h => List.mem_cons_of_mem _ (List.mem_append_left _ (List.mem_append_right _ h))) (by decide +kernel))) (goodIn_sub (fun _ h => List.mem_cons_of_mem _ (List.mem_append_right _ h)) (by decide +kernel))
set_option maxRecDepth 20000 in
theorem gL_putIn_X1_putIn : GoodIn wsL_putIn (wsV RL 33 RX1 yX1_putIn wsX1_putIn) := goodIn_app (goodIn_of _ (by decide +kernel)) ggL_putIn_X1_putIn
theorem dL_putIn_0 : decode cL_putIn 0 = .ok (.aload_n 3, 1) := by decide +kernel
theorem dL_putIn_1 : decode cL_putIn 1 = .ok (.iconst 0, 1) := by decide +kernel
theorem dL_putIn_2 : decode cL_putIn 2 = .ok (.aload_n 0, 1) := by decide +kernel
theorem dL_putIn_3 : decode cL_putIn 3 = .ok (.iload_n 1, 1) := by decide +kernel
theorem dL_putIn_4 : decode cL_putIn 4 = .ok (.iload_n 2, 1) := by decide +kernel
theorem dL_putIn_5 : decode cL_putIn 5 = .ok (.invokevirtual 33, 3) := by decide +kernel
theorem dL_putIn_8 : decode cL_putIn 8 = .ok (.i2l, 1) := by decide +kernel
theorem dL_putIn_9 : decode cL_putIn 9 = .ok (.lastore, 1) := by decide +kernel
theorem dL_putIn_10 : decode cL_putIn 10 = .ok (.goto 11, 3) := by decide +kernel
theorem dL_putIn_13 : decode cL_putIn 13 = .ok (.astore 4, 2) := by decide +kernel
theorem dL_putIn_15 : decode cL_putIn 15 = .ok (.iconst 1, 1) := by decide +kernel
theorem dL_putIn_16 : decode cL_putIn 16 = .ok (.ireturn, 1) := by decide +kernel
theorem dL_putIn_17 : decode cL_putIn 17 = .ok (.astore 4, 2) := by decide +kernel
theorem dL_putIn_19 : decode cL_putIn 19 = .ok (.iconst 2, 1) := by decide +kernel
theorem dL_putIn_20 : decode cL_putIn 20 = .ok (.ireturn, 1) := by decide +kernel
theorem dL_putIn_21 : decode cL_putIn 21 = .ok (.iconst 0, 1) := by decide +kernel
theorem dL_putIn_22 : decode cL_putIn 22 = .ok (.ireturn, 1) := by decide +kernel
set_option maxRecDepth 20000 in
theorem ggL_takeOut_X1_takeOut : GoodIn wsL_takeOut wsX1_takeOut := goodIn_ca (goodIn_ca (goodIn_r _ [7, 8, 9, 10, 11, 12, 13, 14, 15, 6, 16, 17, 18, 19, 20, 21, 22, 23, 24, 25, 26, 27, 28, 29, 30, 31, 32, 33, 34, 35, 36, 37, 38, 39, 40, 41, 42, 43, 44, 45, 46, 47, 48, 49, 50, 51, 52, 53, 54, 55, 56, 57, 58, 59, 60, 61, 62, 63, 64, 65, 66, 67, 68, 69, 70, 71, 72, 73, 74, 75, 76] (by decide +kernel) (by decide +kernel)) (goodIn_sub (fun _ h => List.mem_cons_of_mem _ (List.mem_append_left _ (List.mem_append_right _ h))) (by decide +kernel))) (goodIn_sub (fun _ h => List.mem_cons_of_mem _ (List.mem_append_right _ h)) (by decide +kernel))
set_option maxRecDepth 20000 in
theorem gL_takeOut_X1_takeOut : GoodIn wsL_takeOut (wsV RL 36 RX1 yX1_takeOut wsX1_takeOut) := goodIn_app (goodIn_of _ (by decide +kernel)) ggL_takeOut_X1_takeOut
theorem dL_takeOut_0 : decode cL_takeOut 0 = .ok (.aload_n 2, 1) := by decide +kernel
theorem dL_takeOut_1 : decode cL_takeOut 1 = .ok (.iconst 0, 1) := by decide +kernel
theorem dL_takeOut_2 : decode cL_takeOut 2 = .ok (.aload_n 0, 1) := by decide +kernel
theorem dL_takeOut_3 : decode cL_takeOut 3 = .ok (.iload_n 1, 1) := by decide +kernel
theorem dL_takeOut_4 : decode cL_takeOut 4 = .ok (.invokevirtual 36, 3) := by decide +kernel
theorem dL_takeOut_7 : decode cL_takeOut 7 = .ok (.i2l, 1) := by decide +kernel
theorem dL_takeOut_8 : decode cL_takeOut 8 = .ok (.lastore, 1) := by decide +kernel
theorem dL_takeOut_9 : decode cL_takeOut 9 = .ok (.goto 9, 3) := by decide +kernel
theorem dL_takeOut_12 : decode cL_takeOut 12 = .ok (.astore_n 3, 1) := by decide +kernel
theorem dL_takeOut_13 : decode cL_takeOut 13 = .ok (.iconst 1, 1) := by decide +kernel
theorem dL_takeOut_14 : decode cL_takeOut 14 = .ok (.ireturn, 1) := by decide +kernel
theorem dL_takeOut_15 : decode cL_takeOut 15 = .ok (.astore_n 3, 1) := by decide +kernel
theorem dL_takeOut_16 : decode cL_takeOut 16 = .ok (.iconst 2, 1) := by decide +kernel
theorem dL_takeOut_17 : decode cL_takeOut 17 = .ok (.ireturn, 1) := by decide +kernel
theorem dL_takeOut_18 : decode cL_takeOut 18 = .ok (.iconst 0, 1) := by decide +kernel
theorem dL_takeOut_19 : decode cL_takeOut 19 = .ok (.ireturn, 1) := by decide +kernel
set_option maxRecDepth 20000 in
theorem ggL_spansOf_X1_spansOf : GoodIn wsL_spansOf wsX1_spansOf := goodIn_ca (goodIn_r _ [6, 7, 8, 9, 5, 10, 11, 12, 13, 14, 15, 16, 17, 18, 19, 20, 21, 22, 23, 24, 25, 26, 27, 28, 29, 30, 31, 32, 33, 34, 35, 36, 37, 38, 39, 40, 41] (by decide +kernel) (by decide +kernel)) (goodIn_sub (fun _ h => List.mem_cons_of_mem _ (List.mem_append_right _ h)) (by decide +kernel))
set_option maxRecDepth 20000 in
theorem gL_spansOf_X1_spansOf : GoodIn wsL_spansOf (wsV RL 40 RX1 yX1_spansOf wsX1_spansOf) := goodIn_app (goodIn_of _ (by decide +kernel)) ggL_spansOf_X1_spansOf
theorem dL_spansOf_0 : decode cL_spansOf 0 = .ok (.aload_n 2, 1) := by decide +kernel
theorem dL_spansOf_1 : decode cL_spansOf 1 = .ok (.iconst 0, 1) := by decide +kernel
theorem dL_spansOf_2 : decode cL_spansOf 2 = .ok (.aload_n 0, 1) := by decide +kernel
theorem dL_spansOf_3 : decode cL_spansOf 3 = .ok (.iload_n 1, 1) := by decide +kernel
theorem dL_spansOf_4 : decode cL_spansOf 4 = .ok (.invokevirtual 40, 3) := by decide +kernel
theorem dL_spansOf_7 : decode cL_spansOf 7 = .ok (.i2l, 1) := by decide +kernel
theorem dL_spansOf_8 : decode cL_spansOf 8 = .ok (.lastore, 1) := by decide +kernel
theorem dL_spansOf_9 : decode cL_spansOf 9 = .ok (.goto 6, 3) := by decide +kernel
theorem dL_spansOf_12 : decode cL_spansOf 12 = .ok (.astore_n 3, 1) := by decide +kernel
theorem dL_spansOf_13 : decode cL_spansOf 13 = .ok (.iconst 1, 1) := by decide +kernel
theorem dL_spansOf_14 : decode cL_spansOf 14 = .ok (.ireturn, 1) := by decide +kernel
theorem dL_spansOf_15 : decode cL_spansOf 15 = .ok (.iconst 0, 1) := by decide +kernel
theorem dL_spansOf_16 : decode cL_spansOf 16 = .ok (.ireturn, 1) := by decide +kernel
set_option maxRecDepth 20000 in
theorem ggL_startOf_X1_startOf : GoodIn wsL_startOf wsX1_startOf := goodIn_ca (goodIn_r _ [6, 7, 8, 9, 5, 10, 11, 12, 13, 14, 15, 16, 17, 18, 19, 20, 21, 22, 23, 24, 25, 26, 27, 28, 29, 30, 31, 32, 33, 34, 35, 36, 37, 38, 39, 40, 41, 42, 43, 44, 45, 46, 47, 48, 49, 50] (by decide +kernel) (by decide +kernel)) (goodIn_sub (fun _ h => List.mem_cons_of_mem _ (List.mem_append_right _ h)) (by decide +kernel))
set_option maxRecDepth 20000 in
theorem gL_startOf_X1_startOf : GoodIn wsL_startOf (wsV RL 43 RX1 yX1_startOf wsX1_startOf) := goodIn_app (goodIn_of _ (by decide +kernel)) ggL_startOf_X1_startOf
theorem dL_startOf_0 : decode cL_startOf 0 = .ok (.aload_n 3, 1) := by decide +kernel
theorem dL_startOf_1 : decode cL_startOf 1 = .ok (.iconst 0, 1) := by decide +kernel
theorem dL_startOf_2 : decode cL_startOf 2 = .ok (.aload_n 0, 1) := by decide +kernel
theorem dL_startOf_3 : decode cL_startOf 3 = .ok (.iload_n 1, 1) := by decide +kernel
theorem dL_startOf_4 : decode cL_startOf 4 = .ok (.iload_n 2, 1) := by decide +kernel
theorem dL_startOf_5 : decode cL_startOf 5 = .ok (.invokevirtual 43, 3) := by decide +kernel
theorem dL_startOf_8 : decode cL_startOf 8 = .ok (.i2l, 1) := by decide +kernel
theorem dL_startOf_9 : decode cL_startOf 9 = .ok (.lastore, 1) := by decide +kernel
theorem dL_startOf_10 : decode cL_startOf 10 = .ok (.goto 7, 3) := by decide +kernel
theorem dL_startOf_13 : decode cL_startOf 13 = .ok (.astore 4, 2) := by decide +kernel
theorem dL_startOf_15 : decode cL_startOf 15 = .ok (.iconst 1, 1) := by decide +kernel
theorem dL_startOf_16 : decode cL_startOf 16 = .ok (.ireturn, 1) := by decide +kernel
theorem dL_startOf_17 : decode cL_startOf 17 = .ok (.iconst 0, 1) := by decide +kernel
theorem dL_startOf_18 : decode cL_startOf 18 = .ok (.ireturn, 1) := by decide +kernel
set_option maxRecDepth 20000 in
theorem ggL_endOf_X1_endOf : GoodIn wsL_endOf wsX1_endOf := goodIn_ca (goodIn_r _ [6, 7, 8, 9, 5, 10, 11, 12, 13, 14, 15, 16, 17, 18, 19, 20, 21, 22, 23, 24, 25, 26, 27, 28, 29, 30, 31, 32, 33, 34, 35, 36, 37, 38, 39, 40, 41, 42, 43, 44, 45, 46, 47, 48, 49, 50] (by decide +kernel) (by decide +kernel)) (goodIn_sub (fun _ h => List.mem_cons_of_mem _ (List.mem_append_right _ h)) (by decide +kernel))
set_option maxRecDepth 20000 in
theorem gL_endOf_X1_endOf : GoodIn wsL_endOf (wsV RL 46 RX1 yX1_endOf wsX1_endOf) := goodIn_app (goodIn_of _ (by decide +kernel)) ggL_endOf_X1_endOf
theorem dL_endOf_0 : decode cL_endOf 0 = .ok (.aload_n 3, 1) := by decide +kernel
theorem dL_endOf_1 : decode cL_endOf 1 = .ok (.iconst 0, 1) := by decide +kernel
theorem dL_endOf_2 : decode cL_endOf 2 = .ok (.aload_n 0, 1) := by decide +kernel
theorem dL_endOf_3 : decode cL_endOf 3 = .ok (.iload_n 1, 1) := by decide +kernel
theorem dL_endOf_4 : decode cL_endOf 4 = .ok (.iload_n 2, 1) := by decide +kernel
theorem dL_endOf_5 : decode cL_endOf 5 = .ok (.invokevirtual 46, 3) := by decide +kernel
theorem dL_endOf_8 : decode cL_endOf 8 = .ok (.i2l, 1) := by decide +kernel
theorem dL_endOf_9 : decode cL_endOf 9 = .ok (.lastore, 1) := by decide +kernel
theorem dL_endOf_10 : decode cL_endOf 10 = .ok (.goto 7, 3) := by decide +kernel
theorem dL_endOf_13 : decode cL_endOf 13 = .ok (.astore 4, 2) := by decide +kernel
theorem dL_endOf_15 : decode cL_endOf 15 = .ok (.iconst 1, 1) := by decide +kernel
theorem dL_endOf_16 : decode cL_endOf 16 = .ok (.ireturn, 1) := by decide +kernel
theorem dL_endOf_17 : decode cL_endOf 17 = .ok (.iconst 0, 1) := by decide +kernel
theorem dL_endOf_18 : decode cL_endOf 18 = .ok (.ireturn, 1) := by decide +kernel
set_option maxRecDepth 20000 in
theorem ggL_pagesOf_X1_pagesOf : GoodIn wsL_pagesOf wsX1_pagesOf := goodIn_ca (goodIn_r _ [6, 7, 8, 9, 5, 10, 11, 12, 13, 14, 15, 16, 17, 18, 19, 20, 21, 22, 23, 24, 25, 26, 27, 28, 29, 30, 31, 32, 33, 34, 35, 36, 37, 38, 39, 40, 41, 42, 43] (by decide +kernel) (by decide +kernel)) (goodIn_sub (fun _ h => List.mem_cons_of_mem _ (List.mem_append_right _ h)) (by decide +kernel))
set_option maxRecDepth 20000 in
theorem gL_pagesOf_X1_pagesOf : GoodIn wsL_pagesOf (wsV RL 49 RX1 yX1_pagesOf wsX1_pagesOf) := goodIn_app (goodIn_of _ (by decide +kernel)) ggL_pagesOf_X1_pagesOf
theorem dL_pagesOf_0 : decode cL_pagesOf 0 = .ok (.aload_n 2, 1) := by decide +kernel
theorem dL_pagesOf_1 : decode cL_pagesOf 1 = .ok (.iconst 0, 1) := by decide +kernel
theorem dL_pagesOf_2 : decode cL_pagesOf 2 = .ok (.aload_n 0, 1) := by decide +kernel
theorem dL_pagesOf_3 : decode cL_pagesOf 3 = .ok (.iload_n 1, 1) := by decide +kernel
theorem dL_pagesOf_4 : decode cL_pagesOf 4 = .ok (.invokevirtual 49, 3) := by decide +kernel
theorem dL_pagesOf_7 : decode cL_pagesOf 7 = .ok (.i2l, 1) := by decide +kernel
theorem dL_pagesOf_8 : decode cL_pagesOf 8 = .ok (.lastore, 1) := by decide +kernel
theorem dL_pagesOf_9 : decode cL_pagesOf 9 = .ok (.goto 6, 3) := by decide +kernel
theorem dL_pagesOf_12 : decode cL_pagesOf 12 = .ok (.astore_n 3, 1) := by decide +kernel
theorem dL_pagesOf_13 : decode cL_pagesOf 13 = .ok (.iconst 1, 1) := by decide +kernel
theorem dL_pagesOf_14 : decode cL_pagesOf 14 = .ok (.ireturn, 1) := by decide +kernel
theorem dL_pagesOf_15 : decode cL_pagesOf 15 = .ok (.iconst 0, 1) := by decide +kernel
theorem dL_pagesOf_16 : decode cL_pagesOf 16 = .ok (.ireturn, 1) := by decide +kernel
set_option maxRecDepth 20000 in
theorem ggL_seeOf_X1_seeOf : GoodIn wsL_seeOf wsX1_seeOf := goodIn_ca (goodIn_r _ [6, 7, 8, 9, 5, 10, 11, 12, 13, 14, 15, 16, 17, 18, 19, 20, 21, 22, 23, 24, 25, 26, 27, 28, 29, 30, 31] (by decide +kernel) (by decide +kernel)) (goodIn_sub (fun _ h => List.mem_cons_of_mem _ (List.mem_append_right _ h)) (by decide +kernel))
set_option maxRecDepth 20000 in
theorem gL_seeOf_X1_seeOf : GoodIn wsL_seeOf (wsV RL 52 RX1 yX1_seeOf wsX1_seeOf) := goodIn_app (goodIn_of _ (by decide +kernel)) ggL_seeOf_X1_seeOf
theorem dL_seeOf_0 : decode cL_seeOf 0 = .ok (.aload_n 2, 1) := by decide +kernel
theorem dL_seeOf_1 : decode cL_seeOf 1 = .ok (.iconst 0, 1) := by decide +kernel
theorem dL_seeOf_2 : decode cL_seeOf 2 = .ok (.aload_n 0, 1) := by decide +kernel
theorem dL_seeOf_3 : decode cL_seeOf 3 = .ok (.iload_n 1, 1) := by decide +kernel
theorem dL_seeOf_4 : decode cL_seeOf 4 = .ok (.invokevirtual 52, 3) := by decide +kernel
theorem dL_seeOf_7 : decode cL_seeOf 7 = .ok (.i2l, 1) := by decide +kernel
theorem dL_seeOf_8 : decode cL_seeOf 8 = .ok (.lastore, 1) := by decide +kernel
theorem dL_seeOf_9 : decode cL_seeOf 9 = .ok (.goto 6, 3) := by decide +kernel
theorem dL_seeOf_12 : decode cL_seeOf 12 = .ok (.astore_n 3, 1) := by decide +kernel
theorem dL_seeOf_13 : decode cL_seeOf 13 = .ok (.iconst 1, 1) := by decide +kernel
theorem dL_seeOf_14 : decode cL_seeOf 14 = .ok (.ireturn, 1) := by decide +kernel
theorem dL_seeOf_15 : decode cL_seeOf 15 = .ok (.iconst 0, 1) := by decide +kernel
theorem dL_seeOf_16 : decode cL_seeOf 16 = .ok (.ireturn, 1) := by decide +kernel
set_option maxRecDepth 20000 in
theorem ggL_seeAlsosOf_X1_seeAlsosOf : GoodIn wsL_seeAlsosOf wsX1_seeAlsosOf := goodIn_ca (goodIn_r _ [6, 7, 8, 9, 5, 10, 11, 12, 13, 14, 15, 16, 17, 18, 19, 20, 21, 22, 23, 24, 25, 26, 27, 28, 29, 30, 31, 32, 33, 34, 35, 36, 37, 38] (by decide +kernel) (by decide +kernel)) (goodIn_sub (fun _ h => List.mem_cons_of_mem _ (List.mem_append_right _ h)) (by decide +kernel))
set_option maxRecDepth 20000 in
theorem gL_seeAlsosOf_X1_seeAlsosOf : GoodIn wsL_seeAlsosOf (wsV RL 55 RX1 yX1_seeAlsosOf wsX1_seeAlsosOf) := goodIn_app (goodIn_of _ (by decide +kernel)) ggL_seeAlsosOf_X1_seeAlsosOf
theorem dL_seeAlsosOf_0 : decode cL_seeAlsosOf 0 = .ok (.aload_n 2, 1) := by decide +kernel
theorem dL_seeAlsosOf_1 : decode cL_seeAlsosOf 1 = .ok (.iconst 0, 1) := by decide +kernel
theorem dL_seeAlsosOf_2 : decode cL_seeAlsosOf 2 = .ok (.aload_n 0, 1) := by decide +kernel
theorem dL_seeAlsosOf_3 : decode cL_seeAlsosOf 3 = .ok (.iload_n 1, 1) := by decide +kernel
theorem dL_seeAlsosOf_4 : decode cL_seeAlsosOf 4 = .ok (.invokevirtual 55, 3) := by decide +kernel
theorem dL_seeAlsosOf_7 : decode cL_seeAlsosOf 7 = .ok (.i2l, 1) := by decide +kernel
theorem dL_seeAlsosOf_8 : decode cL_seeAlsosOf 8 = .ok (.lastore, 1) := by decide +kernel
theorem dL_seeAlsosOf_9 : decode cL_seeAlsosOf 9 = .ok (.goto 6, 3) := by decide +kernel
theorem dL_seeAlsosOf_12 : decode cL_seeAlsosOf 12 = .ok (.astore_n 3, 1) := by decide +kernel
theorem dL_seeAlsosOf_13 : decode cL_seeAlsosOf 13 = .ok (.iconst 1, 1) := by decide +kernel
theorem dL_seeAlsosOf_14 : decode cL_seeAlsosOf 14 = .ok (.ireturn, 1) := by decide +kernel
theorem dL_seeAlsosOf_15 : decode cL_seeAlsosOf 15 = .ok (.iconst 0, 1) := by decide +kernel
theorem dL_seeAlsosOf_16 : decode cL_seeAlsosOf 16 = .ok (.ireturn, 1) := by decide +kernel
set_option maxRecDepth 20000 in
theorem ggL_isOn_X1_isOn : GoodIn wsL_isOn wsX1_isOn := goodIn_ca (goodIn_ca (goodIn_r _ [7, 8, 9, 10, 6, 11, 12, 13, 14, 15, 16, 17, 18, 19, 20, 21, 22, 23, 24, 25, 26, 27, 28, 29, 30, 31, 32, 33, 34, 35, 36, 37, 38, 39, 40, 41, 42, 43, 44, 45, 46, 47, 48, 49, 50, 51] (by decide +kernel) (by decide +kernel)) (goodIn_sub (fun _ h => List.mem_cons_of_mem _ (List.mem_append_left _ (List.mem_append_right _ h))) (by decide +kernel))) (goodIn_sub (fun _ h => List.mem_cons_of_mem _ (List.mem_append_right _ h)) (by decide +kernel))
set_option maxRecDepth 20000 in
theorem gL_isOn_X1_isOn : GoodIn wsL_isOn (wsV RL 58 RX1 yX1_isOn wsX1_isOn) := goodIn_app (goodIn_of _ (by decide +kernel)) ggL_isOn_X1_isOn
theorem dL_isOn_0 : decode cL_isOn 0 = .ok (.aload_n 3, 1) := by decide +kernel
theorem dL_isOn_1 : decode cL_isOn 1 = .ok (.iconst 0, 1) := by decide +kernel
theorem dL_isOn_2 : decode cL_isOn 2 = .ok (.aload_n 0, 1) := by decide +kernel
theorem dL_isOn_3 : decode cL_isOn 3 = .ok (.iload_n 1, 1) := by decide +kernel
theorem dL_isOn_4 : decode cL_isOn 4 = .ok (.iload_n 2, 1) := by decide +kernel
theorem dL_isOn_5 : decode cL_isOn 5 = .ok (.invokevirtual 58, 3) := by decide +kernel
theorem dL_isOn_8 : decode cL_isOn 8 = .ok (.ifCond .eq 7, 3) := by decide +kernel
theorem dL_isOn_11 : decode cL_isOn 11 = .ok (.lconst 1, 1) := by decide +kernel
theorem dL_isOn_12 : decode cL_isOn 12 = .ok (.goto 4, 3) := by decide +kernel
theorem dL_isOn_15 : decode cL_isOn 15 = .ok (.lconst 0, 1) := by decide +kernel
theorem dL_isOn_16 : decode cL_isOn 16 = .ok (.lastore, 1) := by decide +kernel
theorem dL_isOn_17 : decode cL_isOn 17 = .ok (.goto 11, 3) := by decide +kernel
theorem dL_isOn_20 : decode cL_isOn 20 = .ok (.astore 4, 2) := by decide +kernel
theorem dL_isOn_22 : decode cL_isOn 22 = .ok (.iconst 1, 1) := by decide +kernel
theorem dL_isOn_23 : decode cL_isOn 23 = .ok (.ireturn, 1) := by decide +kernel
theorem dL_isOn_24 : decode cL_isOn 24 = .ok (.astore 4, 2) := by decide +kernel
theorem dL_isOn_26 : decode cL_isOn 26 = .ok (.iconst 2, 1) := by decide +kernel
theorem dL_isOn_27 : decode cL_isOn 27 = .ok (.ireturn, 1) := by decide +kernel
theorem dL_isOn_28 : decode cL_isOn 28 = .ok (.iconst 0, 1) := by decide +kernel
theorem dL_isOn_29 : decode cL_isOn 29 = .ok (.ireturn, 1) := by decide +kernel
set_option maxRecDepth 20000 in
theorem ggL_headingsOn_X1_headingsOn : GoodIn wsL_headingsOn wsX1_headingsOn := goodIn_ca (goodIn_r _ [6, 7, 8, 9, 5, 10, 11, 12, 13, 14, 15, 16, 17, 18, 19, 20, 21, 22, 23, 24, 25, 26, 27, 28, 29, 30, 31, 32, 33, 34, 35, 36, 37, 38, 39, 40, 41, 42, 43, 44, 45, 46, 47, 48] (by decide +kernel) (by decide +kernel)) (goodIn_sub (fun _ h => List.mem_cons_of_mem _ (List.mem_append_right _ h)) (by decide +kernel))
set_option maxRecDepth 20000 in
theorem gL_headingsOn_X1_headingsOn : GoodIn wsL_headingsOn (wsV RL 62 RX1 yX1_headingsOn wsX1_headingsOn) := goodIn_app (goodIn_of _ (by decide +kernel)) ggL_headingsOn_X1_headingsOn
theorem dL_headingsOn_0 : decode cL_headingsOn 0 = .ok (.aload_n 2, 1) := by decide +kernel
theorem dL_headingsOn_1 : decode cL_headingsOn 1 = .ok (.iconst 0, 1) := by decide +kernel
theorem dL_headingsOn_2 : decode cL_headingsOn 2 = .ok (.aload_n 0, 1) := by decide +kernel
theorem dL_headingsOn_3 : decode cL_headingsOn 3 = .ok (.iload_n 1, 1) := by decide +kernel
theorem dL_headingsOn_4 : decode cL_headingsOn 4 = .ok (.invokevirtual 62, 3) := by decide +kernel
theorem dL_headingsOn_7 : decode cL_headingsOn 7 = .ok (.i2l, 1) := by decide +kernel
theorem dL_headingsOn_8 : decode cL_headingsOn 8 = .ok (.lastore, 1) := by decide +kernel
theorem dL_headingsOn_9 : decode cL_headingsOn 9 = .ok (.goto 6, 3) := by decide +kernel
theorem dL_headingsOn_12 : decode cL_headingsOn 12 = .ok (.astore_n 3, 1) := by decide +kernel
theorem dL_headingsOn_13 : decode cL_headingsOn 13 = .ok (.iconst 1, 1) := by decide +kernel
theorem dL_headingsOn_14 : decode cL_headingsOn 14 = .ok (.ireturn, 1) := by decide +kernel
theorem dL_headingsOn_15 : decode cL_headingsOn 15 = .ok (.iconst 0, 1) := by decide +kernel
theorem dL_headingsOn_16 : decode cL_headingsOn 16 = .ok (.ireturn, 1) := by decide +kernel
set_option maxRecDepth 20000 in
theorem ggL_leadsTo_X1_leadsTo : GoodIn wsL_leadsTo wsX1_leadsTo := goodIn_ca (goodIn_r _ [6, 7, 8, 9, 5, 10, 11, 12, 13, 14, 15, 16, 17, 18, 19, 20, 21, 22, 23, 24, 25, 26, 27, 28, 29, 30, 31, 32, 33, 34, 35] (by decide +kernel) (by decide +kernel)) (goodIn_sub (fun _ h => List.mem_cons_of_mem _ (List.mem_append_right _ h)) (by decide +kernel))
set_option maxRecDepth 20000 in
theorem gL_leadsTo_X1_leadsTo : GoodIn wsL_leadsTo (wsV RL 65 RX1 yX1_leadsTo wsX1_leadsTo) := goodIn_app (goodIn_of _ (by decide +kernel)) ggL_leadsTo_X1_leadsTo
theorem dL_leadsTo_0 : decode cL_leadsTo 0 = .ok (.aload_n 2, 1) := by decide +kernel
theorem dL_leadsTo_1 : decode cL_leadsTo 1 = .ok (.iconst 0, 1) := by decide +kernel
theorem dL_leadsTo_2 : decode cL_leadsTo 2 = .ok (.aload_n 0, 1) := by decide +kernel
theorem dL_leadsTo_3 : decode cL_leadsTo 3 = .ok (.iload_n 1, 1) := by decide +kernel
theorem dL_leadsTo_4 : decode cL_leadsTo 4 = .ok (.invokevirtual 65, 3) := by decide +kernel
theorem dL_leadsTo_7 : decode cL_leadsTo 7 = .ok (.i2l, 1) := by decide +kernel
theorem dL_leadsTo_8 : decode cL_leadsTo 8 = .ok (.lastore, 1) := by decide +kernel
theorem dL_leadsTo_9 : decode cL_leadsTo 9 = .ok (.goto 6, 3) := by decide +kernel
theorem dL_leadsTo_12 : decode cL_leadsTo 12 = .ok (.astore_n 3, 1) := by decide +kernel
theorem dL_leadsTo_13 : decode cL_leadsTo 13 = .ok (.iconst 1, 1) := by decide +kernel
theorem dL_leadsTo_14 : decode cL_leadsTo 14 = .ok (.ireturn, 1) := by decide +kernel
theorem dL_leadsTo_15 : decode cL_leadsTo 15 = .ok (.iconst 0, 1) := by decide +kernel
theorem dL_leadsTo_16 : decode cL_leadsTo 16 = .ok (.ireturn, 1) := by decide +kernel
set_option maxRecDepth 20000 in
theorem ggL_steps_X1_steps : GoodIn wsL_steps wsX1_steps := goodIn_ca (goodIn_r _ [6, 7, 8, 9, 5, 10, 11, 12, 13, 14, 15, 16, 17, 18, 19, 20, 21, 22, 23, 24, 25, 26, 27, 28, 29, 30, 31, 32, 33, 34, 35] (by decide +kernel) (by decide +kernel)) (goodIn_sub (fun _ h => List.mem_cons_of_mem _ (List.mem_append_right _ h)) (by decide +kernel))
set_option maxRecDepth 20000 in
theorem gL_steps_X1_steps : GoodIn wsL_steps (wsV RL 68 RX1 yX1_steps wsX1_steps) := goodIn_app (goodIn_of _ (by decide +kernel)) ggL_steps_X1_steps
theorem dL_steps_0 : decode cL_steps 0 = .ok (.aload_n 3, 1) := by decide +kernel
theorem dL_steps_1 : decode cL_steps 1 = .ok (.iconst 0, 1) := by decide +kernel
theorem dL_steps_2 : decode cL_steps 2 = .ok (.aload_n 0, 1) := by decide +kernel
theorem dL_steps_3 : decode cL_steps 3 = .ok (.iload_n 1, 1) := by decide +kernel
theorem dL_steps_4 : decode cL_steps 4 = .ok (.iload_n 2, 1) := by decide +kernel
theorem dL_steps_5 : decode cL_steps 5 = .ok (.invokevirtual 68, 3) := by decide +kernel
theorem dL_steps_8 : decode cL_steps 8 = .ok (.i2l, 1) := by decide +kernel
theorem dL_steps_9 : decode cL_steps 9 = .ok (.lastore, 1) := by decide +kernel
theorem dL_steps_10 : decode cL_steps 10 = .ok (.goto 7, 3) := by decide +kernel
theorem dL_steps_13 : decode cL_steps 13 = .ok (.astore 4, 2) := by decide +kernel
theorem dL_steps_15 : decode cL_steps 15 = .ok (.iconst 1, 1) := by decide +kernel
theorem dL_steps_16 : decode cL_steps 16 = .ok (.ireturn, 1) := by decide +kernel
theorem dL_steps_17 : decode cL_steps 17 = .ok (.iconst 0, 1) := by decide +kernel
theorem dL_steps_18 : decode cL_steps 18 = .ok (.ireturn, 1) := by decide +kernel
set_option maxRecDepth 20000 in
theorem ggL_reachOf_X1_reachOf : GoodIn wsL_reachOf wsX1_reachOf := goodIn_ca (goodIn_r _ [6, 7, 8, 9, 5, 10, 11, 12, 13, 14, 15, 16, 17, 18, 19, 20, 21, 22, 23, 24, 25, 26, 27, 28, 29, 30, 31, 32, 33, 34, 35, 36, 37, 38, 39, 40, 41, 42, 43, 44, 45, 46, 47, 48, 49, 50] (by decide +kernel) (by decide +kernel)) (goodIn_sub (fun _ h => List.mem_cons_of_mem _ (List.mem_append_right _ h)) (by decide +kernel))
set_option maxRecDepth 20000 in
theorem gL_reachOf_X1_reachOf : GoodIn wsL_reachOf (wsV RL 71 RX1 yX1_reachOf wsX1_reachOf) := goodIn_app (goodIn_of _ (by decide +kernel)) ggL_reachOf_X1_reachOf
theorem dL_reachOf_0 : decode cL_reachOf 0 = .ok (.aload_n 2, 1) := by decide +kernel
theorem dL_reachOf_1 : decode cL_reachOf 1 = .ok (.iconst 0, 1) := by decide +kernel
theorem dL_reachOf_2 : decode cL_reachOf 2 = .ok (.aload_n 0, 1) := by decide +kernel
theorem dL_reachOf_3 : decode cL_reachOf 3 = .ok (.iload_n 1, 1) := by decide +kernel
theorem dL_reachOf_4 : decode cL_reachOf 4 = .ok (.invokevirtual 71, 3) := by decide +kernel
theorem dL_reachOf_7 : decode cL_reachOf 7 = .ok (.i2l, 1) := by decide +kernel
theorem dL_reachOf_8 : decode cL_reachOf 8 = .ok (.lastore, 1) := by decide +kernel
theorem dL_reachOf_9 : decode cL_reachOf 9 = .ok (.goto 6, 3) := by decide +kernel
theorem dL_reachOf_12 : decode cL_reachOf 12 = .ok (.astore_n 3, 1) := by decide +kernel
theorem dL_reachOf_13 : decode cL_reachOf 13 = .ok (.iconst 1, 1) := by decide +kernel
theorem dL_reachOf_14 : decode cL_reachOf 14 = .ok (.ireturn, 1) := by decide +kernel
theorem dL_reachOf_15 : decode cL_reachOf 15 = .ok (.iconst 0, 1) := by decide +kernel
theorem dL_reachOf_16 : decode cL_reachOf 16 = .ok (.ireturn, 1) := by decide +kernel
set_option maxRecDepth 20000 in
theorem ggL_isInRing_X1_isInRing : GoodIn wsL_isInRing wsX1_isInRing := goodIn_ca (goodIn_r _ [6, 7, 8, 9, 5, 10, 11, 12, 13, 14, 15, 16, 17, 18, 19, 20, 21, 22, 23, 24, 25, 26, 27, 28, 29, 30, 31, 32, 33, 34, 35, 36, 37, 38, 39, 40, 41, 42, 43] (by decide +kernel) (by decide +kernel)) (goodIn_sub (fun _ h => List.mem_cons_of_mem _ (List.mem_append_right _ h)) (by decide +kernel))
set_option maxRecDepth 20000 in
theorem gL_isInRing_X1_isInRing : GoodIn wsL_isInRing (wsV RL 74 RX1 yX1_isInRing wsX1_isInRing) := goodIn_app (goodIn_of _ (by decide +kernel)) ggL_isInRing_X1_isInRing
theorem dL_isInRing_0 : decode cL_isInRing 0 = .ok (.aload_n 2, 1) := by decide +kernel
theorem dL_isInRing_1 : decode cL_isInRing 1 = .ok (.iconst 0, 1) := by decide +kernel
theorem dL_isInRing_2 : decode cL_isInRing 2 = .ok (.aload_n 0, 1) := by decide +kernel
theorem dL_isInRing_3 : decode cL_isInRing 3 = .ok (.iload_n 1, 1) := by decide +kernel
theorem dL_isInRing_4 : decode cL_isInRing 4 = .ok (.invokevirtual 74, 3) := by decide +kernel
theorem dL_isInRing_7 : decode cL_isInRing 7 = .ok (.ifCond .eq 7, 3) := by decide +kernel
theorem dL_isInRing_10 : decode cL_isInRing 10 = .ok (.lconst 1, 1) := by decide +kernel
theorem dL_isInRing_11 : decode cL_isInRing 11 = .ok (.goto 4, 3) := by decide +kernel
theorem dL_isInRing_14 : decode cL_isInRing 14 = .ok (.lconst 0, 1) := by decide +kernel
theorem dL_isInRing_15 : decode cL_isInRing 15 = .ok (.lastore, 1) := by decide +kernel
theorem dL_isInRing_16 : decode cL_isInRing 16 = .ok (.goto 6, 3) := by decide +kernel
theorem dL_isInRing_19 : decode cL_isInRing 19 = .ok (.astore_n 3, 1) := by decide +kernel
theorem dL_isInRing_20 : decode cL_isInRing 20 = .ok (.iconst 1, 1) := by decide +kernel
theorem dL_isInRing_21 : decode cL_isInRing 21 = .ok (.ireturn, 1) := by decide +kernel
theorem dL_isInRing_22 : decode cL_isInRing 22 = .ok (.iconst 0, 1) := by decide +kernel
theorem dL_isInRing_23 : decode cL_isInRing 23 = .ok (.ireturn, 1) := by decide +kernel
set_option maxRecDepth 20000 in
theorem ggL_spansWithGap_X1_spansWithGap : GoodIn wsL_spansWithGap wsX1_spansWithGap := goodIn_ca (goodIn_ca (goodIn_r _ [7, 8, 9, 10, 11, 12, 13, 6, 14, 15, 16, 17, 18, 19, 20, 21, 22, 23, 24, 25, 26, 27, 28, 29, 30, 31, 32, 33, 34, 35, 36, 37, 38, 39, 40, 41, 42, 43, 44, 45, 46, 47, 48, 49, 50, 51, 52, 53, 54, 55, 56, 57, 58, 59] (by decide +kernel) (by decide +kernel)) (goodIn_sub (fun _ h => List.mem_cons_of_mem _ (List.mem_append_left _ (List.mem_append_right _ h))) (by decide +kernel))) (goodIn_sub (fun _ h => List.mem_cons_of_mem _ (List.mem_append_right _ h)) (by decide +kernel))
set_option maxRecDepth 20000 in
theorem gL_spansWithGap_X1_spansWithGap : GoodIn wsL_spansWithGap (wsV RL 78 RX1 yX1_spansWithGap wsX1_spansWithGap) := goodIn_app (goodIn_of _ (by decide +kernel)) ggL_spansWithGap_X1_spansWithGap
theorem dL_spansWithGap_0 : decode cL_spansWithGap 0 = .ok (.aload_n 3, 1) := by decide +kernel
theorem dL_spansWithGap_1 : decode cL_spansWithGap 1 = .ok (.iconst 0, 1) := by decide +kernel
theorem dL_spansWithGap_2 : decode cL_spansWithGap 2 = .ok (.aload_n 0, 1) := by decide +kernel
theorem dL_spansWithGap_3 : decode cL_spansWithGap 3 = .ok (.iload_n 1, 1) := by decide +kernel
theorem dL_spansWithGap_4 : decode cL_spansWithGap 4 = .ok (.iload_n 2, 1) := by decide +kernel
theorem dL_spansWithGap_5 : decode cL_spansWithGap 5 = .ok (.invokevirtual 78, 3) := by decide +kernel
theorem dL_spansWithGap_8 : decode cL_spansWithGap 8 = .ok (.i2l, 1) := by decide +kernel
theorem dL_spansWithGap_9 : decode cL_spansWithGap 9 = .ok (.lastore, 1) := by decide +kernel
theorem dL_spansWithGap_10 : decode cL_spansWithGap 10 = .ok (.goto 11, 3) := by decide +kernel
theorem dL_spansWithGap_13 : decode cL_spansWithGap 13 = .ok (.astore 4, 2) := by decide +kernel
theorem dL_spansWithGap_15 : decode cL_spansWithGap 15 = .ok (.iconst 1, 1) := by decide +kernel
theorem dL_spansWithGap_16 : decode cL_spansWithGap 16 = .ok (.ireturn, 1) := by decide +kernel
theorem dL_spansWithGap_17 : decode cL_spansWithGap 17 = .ok (.astore 4, 2) := by decide +kernel
theorem dL_spansWithGap_19 : decode cL_spansWithGap 19 = .ok (.iconst 2, 1) := by decide +kernel
theorem dL_spansWithGap_20 : decode cL_spansWithGap 20 = .ok (.ireturn, 1) := by decide +kernel
theorem dL_spansWithGap_21 : decode cL_spansWithGap 21 = .ok (.iconst 0, 1) := by decide +kernel
theorem dL_spansWithGap_22 : decode cL_spansWithGap 22 = .ok (.ireturn, 1) := by decide +kernel
set_option maxRecDepth 20000 in
theorem ggL_commonPages_X1_commonPages : GoodIn wsL_commonPages wsX1_commonPages := goodIn_ca (goodIn_r _ [6, 7, 8, 9, 5, 10, 11, 12, 13, 14, 15, 16, 17, 18, 19, 20, 21, 22, 23, 24, 25, 26, 27, 28, 29, 30, 31, 32, 33, 34, 35, 36, 37, 38, 39, 40, 41, 42, 43, 44, 45, 46, 47, 48, 49, 50] (by decide +kernel) (by decide +kernel)) (goodIn_sub (fun _ h => List.mem_cons_of_mem _ (List.mem_append_right _ h)) (by decide +kernel))
set_option maxRecDepth 20000 in
theorem gL_commonPages_X1_commonPages : GoodIn wsL_commonPages (wsV RL 81 RX1 yX1_commonPages wsX1_commonPages) := goodIn_app (goodIn_of _ (by decide +kernel)) ggL_commonPages_X1_commonPages
theorem dL_commonPages_0 : decode cL_commonPages 0 = .ok (.aload_n 3, 1) := by decide +kernel
theorem dL_commonPages_1 : decode cL_commonPages 1 = .ok (.iconst 0, 1) := by decide +kernel
theorem dL_commonPages_2 : decode cL_commonPages 2 = .ok (.aload_n 0, 1) := by decide +kernel
theorem dL_commonPages_3 : decode cL_commonPages 3 = .ok (.iload_n 1, 1) := by decide +kernel
theorem dL_commonPages_4 : decode cL_commonPages 4 = .ok (.iload_n 2, 1) := by decide +kernel
theorem dL_commonPages_5 : decode cL_commonPages 5 = .ok (.invokevirtual 81, 3) := by decide +kernel
theorem dL_commonPages_8 : decode cL_commonPages 8 = .ok (.i2l, 1) := by decide +kernel
theorem dL_commonPages_9 : decode cL_commonPages 9 = .ok (.lastore, 1) := by decide +kernel
theorem dL_commonPages_10 : decode cL_commonPages 10 = .ok (.goto 7, 3) := by decide +kernel
theorem dL_commonPages_13 : decode cL_commonPages 13 = .ok (.astore 4, 2) := by decide +kernel
theorem dL_commonPages_15 : decode cL_commonPages 15 = .ok (.iconst 1, 1) := by decide +kernel
theorem dL_commonPages_16 : decode cL_commonPages 16 = .ok (.ireturn, 1) := by decide +kernel
theorem dL_commonPages_17 : decode cL_commonPages 17 = .ok (.iconst 0, 1) := by decide +kernel
theorem dL_commonPages_18 : decode cL_commonPages 18 = .ok (.ireturn, 1) := by decide +kernel
set_option maxRecDepth 20000 in
theorem ggL_nearest_X1_nearest : GoodIn wsL_nearest wsX1_nearest := goodIn_ca (goodIn_r _ [6, 7, 8, 9, 5, 10, 11, 12, 13, 14, 15, 16, 17, 18, 19, 20, 21, 22, 23, 24, 25, 26, 27, 28, 29, 30, 31, 32, 33, 34, 35, 36, 37, 38, 39, 40, 41, 42, 43, 44, 45, 46, 47, 48, 49, 50, 51, 52, 53, 54] (by decide +kernel) (by decide +kernel)) (goodIn_sub (fun _ h => List.mem_cons_of_mem _ (List.mem_append_right _ h)) (by decide +kernel))
set_option maxRecDepth 20000 in
theorem gL_nearest_X1_nearest : GoodIn wsL_nearest (wsV RL 84 RX1 yX1_nearest wsX1_nearest) := goodIn_app (goodIn_of _ (by decide +kernel)) ggL_nearest_X1_nearest
theorem dL_nearest_0 : decode cL_nearest 0 = .ok (.aload_n 2, 1) := by decide +kernel
theorem dL_nearest_1 : decode cL_nearest 1 = .ok (.iconst 0, 1) := by decide +kernel
theorem dL_nearest_2 : decode cL_nearest 2 = .ok (.aload_n 0, 1) := by decide +kernel
theorem dL_nearest_3 : decode cL_nearest 3 = .ok (.iload_n 1, 1) := by decide +kernel
theorem dL_nearest_4 : decode cL_nearest 4 = .ok (.invokevirtual 84, 3) := by decide +kernel
theorem dL_nearest_7 : decode cL_nearest 7 = .ok (.i2l, 1) := by decide +kernel
theorem dL_nearest_8 : decode cL_nearest 8 = .ok (.lastore, 1) := by decide +kernel
theorem dL_nearest_9 : decode cL_nearest 9 = .ok (.goto 6, 3) := by decide +kernel
theorem dL_nearest_12 : decode cL_nearest 12 = .ok (.astore_n 3, 1) := by decide +kernel
theorem dL_nearest_13 : decode cL_nearest 13 = .ok (.iconst 1, 1) := by decide +kernel
theorem dL_nearest_14 : decode cL_nearest 14 = .ok (.ireturn, 1) := by decide +kernel
theorem dL_nearest_15 : decode cL_nearest 15 = .ok (.iconst 0, 1) := by decide +kernel
theorem dL_nearest_16 : decode cL_nearest 16 = .ok (.ireturn, 1) := by decide +kernel
set_option maxRecDepth 20000 in
theorem ggL_spansTogether_X1_spansTogether : GoodIn wsL_spansTogether wsX1_spansTogether := goodIn_ca (goodIn_r _ [6, 7, 8, 9, 10, 5, 11, 12, 13, 14, 15, 16, 17, 18, 19, 20, 21, 22, 23, 24, 25, 26, 27, 28, 29, 30, 31, 32, 33, 34, 35, 36, 37, 38, 39, 40, 41, 42, 43, 44, 45, 46, 47, 48, 49, 50, 51, 52, 53, 54, 55, 56, 57, 58, 59, 60, 61, 62, 63, 64] (by decide +kernel) (by decide +kernel)) (goodIn_sub (fun _ h => List.mem_cons_of_mem _ (List.mem_append_right _ h)) (by decide +kernel))
set_option maxRecDepth 20000 in
theorem gL_spansTogether_X1_spansTogether : GoodIn wsL_spansTogether (wsV RL 87 RX1 yX1_spansTogether wsX1_spansTogether) := goodIn_app (goodIn_of _ (by decide +kernel)) ggL_spansTogether_X1_spansTogether
theorem dL_spansTogether_0 : decode cL_spansTogether 0 = .ok (.aload_n 3, 1) := by decide +kernel
theorem dL_spansTogether_1 : decode cL_spansTogether 1 = .ok (.iconst 0, 1) := by decide +kernel
theorem dL_spansTogether_2 : decode cL_spansTogether 2 = .ok (.aload_n 0, 1) := by decide +kernel
theorem dL_spansTogether_3 : decode cL_spansTogether 3 = .ok (.iload_n 1, 1) := by decide +kernel
theorem dL_spansTogether_4 : decode cL_spansTogether 4 = .ok (.iload_n 2, 1) := by decide +kernel
theorem dL_spansTogether_5 : decode cL_spansTogether 5 = .ok (.invokevirtual 87, 3) := by decide +kernel
theorem dL_spansTogether_8 : decode cL_spansTogether 8 = .ok (.i2l, 1) := by decide +kernel
theorem dL_spansTogether_9 : decode cL_spansTogether 9 = .ok (.lastore, 1) := by decide +kernel
theorem dL_spansTogether_10 : decode cL_spansTogether 10 = .ok (.goto 7, 3) := by decide +kernel
theorem dL_spansTogether_13 : decode cL_spansTogether 13 = .ok (.astore 4, 2) := by decide +kernel
theorem dL_spansTogether_15 : decode cL_spansTogether 15 = .ok (.iconst 1, 1) := by decide +kernel
theorem dL_spansTogether_16 : decode cL_spansTogether 16 = .ok (.ireturn, 1) := by decide +kernel
theorem dL_spansTogether_17 : decode cL_spansTogether 17 = .ok (.iconst 0, 1) := by decide +kernel
theorem dL_spansTogether_18 : decode cL_spansTogether 18 = .ok (.ireturn, 1) := by decide +kernel
end
section
set_option maxRecDepth 20000 in
theorem ggL_law_X1_init : GoodIn wsL_law wsX1_init := goodIn_r _ [9, 10, 11, 12, 13, 14, 15, 16, 17, 18, 19, 20, 21, 22, 23, 24, 25, 26, 27, 28, 29, 30, 31, 32, 672, 673, 674, 675, 676, 677, 678, 679, 680, 687, 688, 689] (by decide +kernel) (by decide +kernel)
set_option maxRecDepth 20000 in
theorem gL_law_X1_init : GoodIn wsL_law (wsX1_init) := ggL_law_X1_init
set_option maxRecDepth 20000 in
theorem ggL_law_X2_init : GoodIn wsL_law wsX2_init := goodIn_r _ [35, 36, 11, 12, 37, 38, 39, 17, 40, 41, 681, 682, 683, 684, 685, 686] (by decide +kernel) (by decide +kernel)
set_option maxRecDepth 20000 in
theorem gL_law_X2_init : GoodIn wsL_law (wsX2_init) := ggL_law_X2_init
set_option maxRecDepth 20000 in
theorem ggL_law_L_addHeading : GoodIn wsL_law wsL_addHeading := goodIn_ca (goodIn_r _ [45, 46, 47, 48, 49, 2, 50, 51, 52, 24, 18, 672, 673, 674, 675, 676, 677, 678, 679, 680] (by decide +kernel) (by decide +kernel)) (goodIn_sub (fun _ h => List.mem_append_left _ (List.mem_append_left _ (List.mem_append_right _ h))) (by decide +kernel))
set_option maxRecDepth 20000 in
theorem gL_law_L_addHeading : GoodIn wsL_law (va_wsS RL 94 yL_addHeading wsL_addHeading) := goodIn_app (goodIn_of _ (by decide +kernel)) ggL_law_L_addHeading
set_option maxRecDepth 20000 in
theorem ggL_law_X2_addHeading : GoodIn wsL_law wsX2_addHeading := goodIn_r _ [56, 57, 58, 40, 59, 60, 61, 5, 62, 681, 682, 683, 684, 685, 686] (by decide +kernel) (by decide +kernel)
set_option maxRecDepth 20000 in
theorem gL_law_X2_addHeading : GoodIn wsL_law (wsV RL 99 RX2 yX2_addHeading wsX2_addHeading) := goodIn_app (goodIn_of _ (by decide +kernel)) ggL_law_X2_addHeading
set_option maxRecDepth 20000 in
theorem ggL_law_X2_thrown : GoodIn wsL_law wsX2_thrown := goodIn_r _ [66, 57, 681, 682, 683, 684, 685, 686] (by decide +kernel) (by decide +kernel)
set_option maxRecDepth 20000 in
theorem gL_law_X2_thrown : GoodIn wsL_law (wsV RL 100 RX2 yX2_thrown wsX2_thrown) := goodIn_app (goodIn_of _ (by decide +kernel)) ggL_law_X2_thrown
set_option maxRecDepth 20000 in
theorem ggL_law_L_addPages : GoodIn wsL_law wsL_addPages := goodIn_ca (goodIn_ca (goodIn_ca (goodIn_r _ [69, 70, 71, 46, 72, 73, 74, 2, 75, 51, 52, 21, 22, 76, 77, 78, 79, 80, 81, 82, 83, 84, 85, 24, 86, 87, 88, 89, 90, 91, 25, 92, 93, 94, 95, 18, 96, 97, 98, 99, 14, 23, 100, 101, 102, 16, 103, 32, 104, 105, 106, 107, 31, 108, 109, 110, 111, 30, 112, 113, 114, 115, 116, 117, 118, 119, 120, 121, 122, 123, 124, 125, 126, 127, 128, 129, 130, 131, 132, 133, 134, 135, 136, 137, 138, 139, 672, 673, 674, 675, 676, 677, 678, 679, 680, 687, 688, 689] (by decide +kernel) (by decide +kernel)) (goodIn_sub (fun _ h => List.mem_append_left _ (List.mem_append_left _ (List.mem_append_right _ h))) (by decide +kernel))) (goodIn_sub (fun _ h => List.mem_append_left _ (List.mem_append_right _ h)) (by decide +kernel))) (goodIn_sub (fun _ h => List.mem_append_right _ h) (by decide +kernel))
set_option maxRecDepth 20000 in
theorem gL_law_L_addPages : GoodIn wsL_law (va_wsS RL 103 yL_addPages wsL_addPages) := goodIn_app (goodIn_of _ (by decide +kernel)) ggL_law_L_addPages
set_option maxRecDepth 20000 in
theorem ggL_law_X2_addPages : GoodIn wsL_law wsX2_addPages := goodIn_r _ [143, 57, 40, 144, 145, 146, 5, 147, 58, 148, 149, 150, 59, 60, 61, 62, 151, 152, 153, 154, 37, 155, 156, 157, 158, 159, 160, 161, 162, 39, 163, 164, 165, 166, 167, 168, 169, 170, 171, 172, 173, 174, 681, 682, 683, 684, 685, 686] (by decide +kernel) (by decide +kernel)
set_option maxRecDepth 20000 in
theorem gL_law_X2_addPages : GoodIn wsL_law (wsV RL 106 RX2 yX2_addPages wsX2_addPages) := goodIn_app (goodIn_of _ (by decide +kernel)) ggL_law_X2_addPages
set_option maxRecDepth 20000 in
theorem ggL_law_L_takePages : GoodIn wsL_law wsL_takePages := goodIn_ca (goodIn_ca (goodIn_ca (goodIn_r _ [177, 70, 71, 46, 178, 179, 180, 2, 181, 22, 76, 77, 78, 79, 80, 81, 82, 83, 84, 85, 24, 86, 87, 88, 89, 90, 91, 25, 96, 97, 98, 99, 14, 23, 182, 183, 184, 16, 185, 32, 30, 31, 186, 187, 110, 188, 108, 109, 111, 189, 190, 191, 192, 104, 105, 106, 107, 124, 125, 126, 127, 51, 52, 128, 129, 130, 131, 193, 194, 195, 196, 132, 133, 134, 135, 136, 137, 138, 139, 672, 673, 674, 675, 676, 677, 678, 679, 680, 687, 688, 689] (by decide +kernel) (by decide +kernel)) (goodIn_sub (fun _ h => List.mem_append_left _ (List.mem_append_right _ h)) (by decide +kernel))) (goodIn_sub (fun _ h => List.mem_append_right _ h) (by decide +kernel))) (goodIn_sub (fun _ h => List.mem_append_left _ (List.mem_append_left _ (List.mem_append_right _ h))) (by decide +kernel))
set_option maxRecDepth 20000 in
theorem gL_law_L_takePages : GoodIn wsL_law (va_wsS RL 107 yL_takePages wsL_takePages) := goodIn_app (goodIn_of _ (by decide +kernel)) ggL_law_L_takePages
set_option maxRecDepth 20000 in
theorem ggL_law_X2_takePages : GoodIn wsL_law wsX2_takePages := goodIn_r _ [200, 57, 144, 145, 146, 5, 147, 58, 148, 149, 150, 59, 60, 61, 62, 151, 152, 153, 154, 37, 155, 156, 157, 158, 159, 160, 161, 162, 39, 201, 202, 203, 204, 163, 164, 165, 166, 167, 168, 169, 170, 681, 682, 683, 684, 685, 686] (by decide +kernel) (by decide +kernel)
set_option maxRecDepth 20000 in
theorem gL_law_X2_takePages : GoodIn wsL_law (wsV RL 109 RX2 yX2_takePages wsX2_takePages) := goodIn_app (goodIn_of _ (by decide +kernel)) ggL_law_X2_takePages
set_option maxRecDepth 20000 in
theorem ggL_law_L_setSee : GoodIn wsL_law wsL_setSee := goodIn_ca (goodIn_ca (goodIn_ca (goodIn_r _ [207, 70, 71, 46, 208, 209, 210, 2, 211, 18, 76, 77, 78, 79, 80, 81, 82, 83, 84, 85, 24, 212, 213, 214, 215, 90, 91, 216, 217, 218, 219, 51, 52, 96, 97, 98, 99, 14, 23, 128, 129, 130, 16, 131, 32, 672, 673, 674, 675, 676, 677, 678, 679, 680, 687, 688, 689] (by decide +kernel) (by decide +kernel)) (goodIn_sub (fun _ h => List.mem_append_left _ (List.mem_append_right _ h)) (by decide +kernel))) (goodIn_sub (fun _ h => List.mem_append_right _ h) (by decide +kernel))) (goodIn_sub (fun _ h => List.mem_append_left _ (List.mem_append_left _ (List.mem_append_right _ h))) (by decide +kernel))
set_option maxRecDepth 20000 in
theorem gL_law_L_setSee : GoodIn wsL_law (va_wsS RL 110 yL_setSee wsL_setSee) := goodIn_app (goodIn_of _ (by decide +kernel)) ggL_law_L_setSee
set_option maxRecDepth 20000 in
theorem ggL_law_X2_setSee : GoodIn wsL_law wsX2_setSee := goodIn_r _ [223, 57, 40, 144, 145, 146, 5, 147, 58, 148, 149, 150, 59, 60, 61, 62, 201, 202, 203, 204, 37, 159, 160, 161, 162, 39, 681, 682, 683, 684, 685, 686] (by decide +kernel) (by decide +kernel)
set_option maxRecDepth 20000 in
theorem gL_law_X2_setSee : GoodIn wsL_law (wsV RL 113 RX2 yX2_setSee wsX2_setSee) := goodIn_app (goodIn_of _ (by decide +kernel)) ggL_law_X2_setSee
set_option maxRecDepth 20000 in
theorem ggL_law_L_turnSeeAlso : GoodIn wsL_law wsL_turnSeeAlso := goodIn_ca (goodIn_ca (goodIn_ca (goodIn_r _ [226, 70, 71, 46, 227, 228, 229, 2, 230, 51, 52, 19, 76, 77, 78, 79, 80, 81, 82, 83, 84, 85, 24, 212, 213, 214, 215, 90, 91, 231, 232, 233, 234, 235, 236, 237, 238, 239, 240, 672, 673, 674, 675, 676, 677, 678, 679, 680] (by decide +kernel) (by decide +kernel)) (goodIn_sub (fun _ h => List.mem_append_left _ (List.mem_append_left _ (List.mem_append_right _ h))) (by decide +kernel))) (goodIn_sub (fun _ h => List.mem_append_left _ (List.mem_append_right _ h)) (by decide +kernel))) (goodIn_sub (fun _ h => List.mem_append_right _ h) (by decide +kernel))
set_option maxRecDepth 20000 in
theorem gL_law_L_turnSeeAlso : GoodIn wsL_law (va_wsS RL 114 yL_turnSeeAlso wsL_turnSeeAlso) := goodIn_app (goodIn_of _ (by decide +kernel)) ggL_law_L_turnSeeAlso
set_option maxRecDepth 20000 in
theorem ggL_law_X2_turnSeeAlso : GoodIn wsL_law wsX2_turnSeeAlso := goodIn_r _ [244, 57, 41, 144, 145, 146, 5, 147, 58, 148, 149, 150, 59, 60, 61, 62, 245, 235, 236, 237, 238, 239, 240, 681, 682, 683, 684, 685, 686] (by decide +kernel) (by decide +kernel)
set_option maxRecDepth 20000 in
theorem gL_law_X2_turnSeeAlso : GoodIn wsL_law (wsV RL 116 RX2 yX2_turnSeeAlso wsX2_turnSeeAlso) := goodIn_app (goodIn_of _ (by decide +kernel)) ggL_law_X2_turnSeeAlso
set_option maxRecDepth 20000 in
theorem ggL_law_L_putIn : GoodIn wsL_law wsL_putIn := goodIn_ca (goodIn_ca (goodIn_r _ [248, 71, 46, 249, 250, 251, 2, 252, 90, 91, 51, 52, 25, 24, 96, 97, 98, 99, 14, 23, 82, 83, 84, 85, 253, 254, 255, 16, 256, 32, 30, 31, 672, 673, 674, 675, 676, 677, 678, 679, 680, 687, 688, 689] (by decide +kernel) (by decide +kernel)) (goodIn_sub (fun _ h => List.mem_append_right _ h) (by decide +kernel))) (goodIn_sub (fun _ h => List.mem_append_left _ (List.mem_append_left _ (List.mem_append_right _ h))) (by decide +kernel))
set_option maxRecDepth 20000 in
theorem gL_law_L_putIn : GoodIn wsL_law (va_wsS RL 117 yL_putIn wsL_putIn) := goodIn_app (goodIn_of _ (by decide +kernel)) ggL_law_L_putIn
set_option maxRecDepth 20000 in
theorem ggL_law_X2_putIn : GoodIn wsL_law wsX2_putIn := goodIn_r _ [260, 57, 37, 58, 148, 149, 5, 150, 59, 60, 61, 62, 159, 160, 161, 162, 39, 167, 168, 169, 170, 163, 164, 165, 166, 681, 682, 683, 684, 685, 686] (by decide +kernel) (by decide +kernel)
set_option maxRecDepth 20000 in
theorem gL_law_X2_putIn : GoodIn wsL_law (wsV RL 119 RX2 yX2_putIn wsX2_putIn) := goodIn_app (goodIn_of _ (by decide +kernel)) ggL_law_X2_putIn
set_option maxRecDepth 20000 in
theorem ggL_law_L_takeOut : GoodIn wsL_law wsL_takeOut := goodIn_ca (goodIn_ca (goodIn_r _ [263, 71, 46, 264, 265, 266, 2, 267, 51, 52, 25, 24, 22, 268, 269, 270, 271, 90, 91, 272, 273, 274, 275, 96, 97, 98, 99, 14, 23, 82, 83, 84, 85, 276, 277, 278, 16, 279, 32, 30, 31, 280, 281, 282, 283, 189, 190, 191, 192, 104, 105, 106, 107, 108, 109, 110, 111, 132, 133, 134, 135, 136, 137, 138, 139, 672, 673, 674, 675, 676, 677, 678, 679, 680, 687, 688, 689] (by decide +kernel) (by decide +kernel)) (goodIn_sub (fun _ h => List.mem_append_left _ (List.mem_append_left _ (List.mem_append_right _ h))) (by decide +kernel))) (goodIn_sub (fun _ h => List.mem_append_right _ h) (by decide +kernel))
set_option maxRecDepth 20000 in
theorem gL_law_L_takeOut : GoodIn wsL_law (va_wsS RL 120 yL_takeOut wsL_takeOut) := goodIn_app (goodIn_of _ (by decide +kernel)) ggL_law_L_takeOut
set_option maxRecDepth 20000 in
theorem ggL_law_X2_takeOut : GoodIn wsL_law wsX2_takeOut := goodIn_r _ [287, 57, 37, 58, 288, 289, 290, 5, 291, 148, 149, 150, 59, 60, 61, 62, 292, 293, 294, 295, 159, 160, 161, 162, 39, 167, 168, 169, 170, 681, 682, 683, 684, 685, 686] (by decide +kernel) (by decide +kernel)
set_option maxRecDepth 20000 in
theorem gL_law_X2_takeOut : GoodIn wsL_law (wsV RL 123 RX2 yX2_takeOut wsX2_takeOut) := goodIn_app (goodIn_of _ (by decide +kernel)) ggL_law_X2_takeOut
set_option maxRecDepth 20000 in
theorem ggL_law_X1_bookPages : GoodIn wsL_law wsX1_bookPages := goodIn_r _ [299, 25, 672, 673, 674, 675, 676, 677, 678, 679, 680] (by decide +kernel) (by decide +kernel)
set_option maxRecDepth 20000 in
theorem gL_law_X1_bookPages : GoodIn wsL_law (wsV RL 124 RX1 yX1_bookPages wsX1_bookPages) := goodIn_app (goodIn_of _ (by decide +kernel)) ggL_law_X1_bookPages
set_option maxRecDepth 20000 in
theorem ggL_law_X2_bookPages : GoodIn wsL_law wsX2_bookPages := goodIn_r _ [303, 37, 304, 305, 306, 5, 307, 57, 681, 682, 683, 684, 685, 686] (by decide +kernel) (by decide +kernel)
set_option maxRecDepth 20000 in
theorem gL_law_X2_bookPages : GoodIn wsL_law (wsV RL 127 RX2 yX2_bookPages wsX2_bookPages) := goodIn_app (goodIn_of _ (by decide +kernel)) ggL_law_X2_bookPages
set_option maxRecDepth 20000 in
theorem ggL_law_X1_headings : GoodIn wsL_law wsX1_headings := goodIn_r _ [311, 24, 672, 673, 674, 675, 676, 677, 678, 679, 680] (by decide +kernel) (by decide +kernel)
set_option maxRecDepth 20000 in
theorem gL_law_X1_headings : GoodIn wsL_law (wsV RL 128 RX1 yX1_headings wsX1_headings) := goodIn_app (goodIn_of _ (by decide +kernel)) ggL_law_X1_headings
set_option maxRecDepth 20000 in
theorem ggL_law_X2_headings : GoodIn wsL_law wsX2_headings := goodIn_r _ [315, 58, 304, 305, 306, 5, 307, 57, 681, 682, 683, 684, 685, 686] (by decide +kernel) (by decide +kernel)
set_option maxRecDepth 20000 in
theorem gL_law_X2_headings : GoodIn wsL_law (wsV RL 131 RX2 yX2_headings wsX2_headings) := goodIn_app (goodIn_of _ (by decide +kernel)) ggL_law_X2_headings
set_option maxRecDepth 20000 in
theorem ggL_law_L_spansOf : GoodIn wsL_law wsL_spansOf := goodIn_ca (goodIn_r _ [318, 70, 319, 320, 321, 2, 322, 76, 77, 78, 79, 80, 81, 82, 83, 84, 85, 24, 96, 97, 98, 99, 14, 23, 128, 129, 130, 16, 131, 32, 672, 673, 674, 675, 676, 677, 678, 679, 680, 687, 688, 689] (by decide +kernel) (by decide +kernel)) (goodIn_sub (fun _ h => List.mem_append_left _ (List.mem_append_right _ h)) (by decide +kernel))
set_option maxRecDepth 20000 in
theorem gL_law_L_spansOf : GoodIn wsL_law (va_wsS RL 132 yL_spansOf wsL_spansOf) := goodIn_app (goodIn_of _ (by decide +kernel)) ggL_law_L_spansOf
set_option maxRecDepth 20000 in
theorem ggL_law_X2_spansOf : GoodIn wsL_law wsX2_spansOf := goodIn_r _ [326, 57, 144, 145, 146, 5, 147, 58, 148, 149, 150, 171, 172, 173, 174, 37, 159, 160, 161, 162, 39, 59, 60, 61, 62, 681, 682, 683, 684, 685, 686] (by decide +kernel) (by decide +kernel)
set_option maxRecDepth 20000 in
theorem gL_law_X2_spansOf : GoodIn wsL_law (wsV RL 134 RX2 yX2_spansOf wsX2_spansOf) := goodIn_app (goodIn_of _ (by decide +kernel)) ggL_law_X2_spansOf
set_option maxRecDepth 20000 in
theorem ggL_law_L_startOf : GoodIn wsL_law wsL_startOf := goodIn_ca (goodIn_r _ [329, 70, 330, 331, 332, 2, 333, 76, 77, 78, 79, 80, 81, 82, 83, 84, 85, 24, 334, 335, 336, 337, 96, 97, 98, 99, 14, 23, 128, 129, 130, 16, 131, 32, 338, 117, 118, 119, 30, 672, 673, 674, 675, 676, 677, 678, 679, 680, 687, 688, 689] (by decide +kernel) (by decide +kernel)) (goodIn_sub (fun _ h => List.mem_append_left _ (List.mem_append_right _ h)) (by decide +kernel))
set_option maxRecDepth 20000 in
theorem gL_law_L_startOf : GoodIn wsL_law (va_wsS RL 135 yL_startOf wsL_startOf) := goodIn_app (goodIn_of _ (by decide +kernel)) ggL_law_L_startOf
set_option maxRecDepth 20000 in
theorem ggL_law_X2_startOf : GoodIn wsL_law wsX2_startOf := goodIn_r _ [342, 57, 343, 344, 345, 5, 346, 144, 145, 146, 147, 58, 148, 149, 150, 171, 172, 173, 174, 37, 159, 160, 161, 162, 39, 347, 348, 349, 350, 59, 60, 61, 62, 681, 682, 683, 684, 685, 686] (by decide +kernel) (by decide +kernel)
set_option maxRecDepth 20000 in
theorem gL_law_X2_startOf : GoodIn wsL_law (wsV RL 137 RX2 yX2_startOf wsX2_startOf) := goodIn_app (goodIn_of _ (by decide +kernel)) ggL_law_X2_startOf
set_option maxRecDepth 20000 in
theorem ggL_law_L_endOf : GoodIn wsL_law wsL_endOf := goodIn_ca (goodIn_r _ [353, 70, 354, 355, 356, 2, 357, 76, 77, 78, 79, 80, 81, 82, 83, 84, 85, 24, 334, 335, 336, 337, 96, 97, 98, 99, 14, 23, 128, 129, 130, 16, 131, 32, 358, 121, 122, 123, 31, 672, 673, 674, 675, 676, 677, 678, 679, 680, 687, 688, 689] (by decide +kernel) (by decide +kernel)) (goodIn_sub (fun _ h => List.mem_append_left _ (List.mem_append_right _ h)) (by decide +kernel))
set_option maxRecDepth 20000 in
theorem gL_law_L_endOf : GoodIn wsL_law (va_wsS RL 138 yL_endOf wsL_endOf) := goodIn_app (goodIn_of _ (by decide +kernel)) ggL_law_L_endOf
set_option maxRecDepth 20000 in
theorem ggL_law_X2_endOf : GoodIn wsL_law wsX2_endOf := goodIn_r _ [362, 57, 343, 344, 345, 5, 346, 144, 145, 146, 147, 58, 148, 149, 150, 171, 172, 173, 174, 37, 159, 160, 161, 162, 39, 363, 364, 365, 366, 347, 348, 349, 350, 59, 60, 61, 62, 681, 682, 683, 684, 685, 686] (by decide +kernel) (by decide +kernel)
set_option maxRecDepth 20000 in
theorem gL_law_X2_endOf : GoodIn wsL_law (wsV RL 140 RX2 yX2_endOf wsX2_endOf) := goodIn_app (goodIn_of _ (by decide +kernel)) ggL_law_X2_endOf
set_option maxRecDepth 20000 in
theorem ggL_law_L_pagesOf : GoodIn wsL_law wsL_pagesOf := goodIn_ca (goodIn_r _ [369, 70, 370, 371, 372, 2, 373, 76, 77, 78, 79, 80, 81, 82, 83, 84, 85, 24, 96, 97, 98, 99, 14, 23, 193, 194, 195, 16, 196, 32, 31, 30, 672, 673, 674, 675, 676, 677, 678, 679, 680, 687, 688, 689] (by decide +kernel) (by decide +kernel)) (goodIn_sub (fun _ h => List.mem_append_left _ (List.mem_append_right _ h)) (by decide +kernel))
set_option maxRecDepth 20000 in
theorem gL_law_L_pagesOf : GoodIn wsL_law (va_wsS RL 141 yL_pagesOf wsL_pagesOf) := goodIn_app (goodIn_of _ (by decide +kernel)) ggL_law_L_pagesOf
set_option maxRecDepth 20000 in
theorem ggL_law_X2_pagesOf : GoodIn wsL_law wsX2_pagesOf := goodIn_r _ [377, 57, 144, 145, 146, 5, 147, 58, 148, 149, 150, 201, 202, 203, 204, 37, 159, 160, 161, 162, 39, 59, 60, 61, 62, 681, 682, 683, 684, 685, 686] (by decide +kernel) (by decide +kernel)
set_option maxRecDepth 20000 in
theorem gL_law_X2_pagesOf : GoodIn wsL_law (wsV RL 143 RX2 yX2_pagesOf wsX2_pagesOf) := goodIn_app (goodIn_of _ (by decide +kernel)) ggL_law_X2_pagesOf
set_option maxRecDepth 20000 in
theorem ggL_law_L_seeOf : GoodIn wsL_law wsL_seeOf := goodIn_ca (goodIn_r _ [380, 70, 381, 382, 383, 2, 384, 76, 77, 78, 79, 80, 81, 82, 83, 84, 85, 24, 92, 93, 94, 95, 18, 672, 673, 674, 675, 676, 677, 678, 679, 680] (by decide +kernel) (by decide +kernel)) (goodIn_sub (fun _ h => List.mem_append_left _ (List.mem_append_right _ h)) (by decide +kernel))
set_option maxRecDepth 20000 in
theorem gL_law_L_seeOf : GoodIn wsL_law (va_wsS RL 144 yL_seeOf wsL_seeOf) := goodIn_app (goodIn_of _ (by decide +kernel)) ggL_law_L_seeOf
set_option maxRecDepth 20000 in
theorem ggL_law_X2_seeOf : GoodIn wsL_law wsX2_seeOf := goodIn_r _ [388, 57, 40, 144, 145, 146, 5, 147, 58, 148, 149, 150, 59, 60, 61, 62, 681, 682, 683, 684, 685, 686] (by decide +kernel) (by decide +kernel)
set_option maxRecDepth 20000 in
theorem gL_law_X2_seeOf : GoodIn wsL_law (wsV RL 146 RX2 yX2_seeOf wsX2_seeOf) := goodIn_app (goodIn_of _ (by decide +kernel)) ggL_law_X2_seeOf
set_option maxRecDepth 20000 in
theorem ggL_law_L_seeAlsosOf : GoodIn wsL_law wsL_seeAlsosOf := goodIn_ca (goodIn_r _ [391, 70, 392, 393, 394, 2, 395, 76, 77, 78, 79, 80, 81, 82, 83, 84, 85, 24, 396, 397, 398, 399, 19, 234, 235, 236, 237, 238, 239, 240, 672, 673, 674, 675, 676, 677, 678, 679, 680] (by decide +kernel) (by decide +kernel)) (goodIn_sub (fun _ h => List.mem_append_left _ (List.mem_append_right _ h)) (by decide +kernel))
set_option maxRecDepth 20000 in
theorem gL_law_L_seeAlsosOf : GoodIn wsL_law (va_wsS RL 147 yL_seeAlsosOf wsL_seeAlsosOf) := goodIn_app (goodIn_of _ (by decide +kernel)) ggL_law_L_seeAlsosOf
set_option maxRecDepth 20000 in
theorem ggL_law_X2_seeAlsosOf : GoodIn wsL_law wsX2_seeAlsosOf := goodIn_r _ [403, 57, 41, 144, 145, 146, 5, 147, 58, 148, 149, 150, 245, 235, 236, 237, 238, 239, 240, 59, 60, 61, 62, 681, 682, 683, 684, 685, 686] (by decide +kernel) (by decide +kernel)
set_option maxRecDepth 20000 in
theorem gL_law_X2_seeAlsosOf : GoodIn wsL_law (wsV RL 149 RX2 yX2_seeAlsosOf wsX2_seeAlsosOf) := goodIn_app (goodIn_of _ (by decide +kernel)) ggL_law_X2_seeAlsosOf
set_option maxRecDepth 20000 in
theorem ggL_law_L_isOn : GoodIn wsL_law wsL_isOn := goodIn_ca (goodIn_ca (goodIn_r _ [406, 70, 71, 407, 408, 409, 2, 410, 76, 77, 78, 79, 80, 81, 82, 83, 84, 85, 24, 268, 269, 270, 271, 90, 91, 25, 96, 97, 98, 99, 14, 23, 276, 277, 278, 16, 279, 32, 30, 31, 672, 673, 674, 675, 676, 677, 678, 679, 680, 687, 688, 689] (by decide +kernel) (by decide +kernel)) (goodIn_sub (fun _ h => List.mem_append_left _ (List.mem_append_right _ h)) (by decide +kernel))) (goodIn_sub (fun _ h => List.mem_append_right _ h) (by decide +kernel))
set_option maxRecDepth 20000 in
theorem gL_law_L_isOn : GoodIn wsL_law (va_wsS RL 150 yL_isOn wsL_isOn) := goodIn_app (goodIn_of _ (by decide +kernel)) ggL_law_L_isOn
set_option maxRecDepth 20000 in
theorem ggL_law_X2_isOn : GoodIn wsL_law wsX2_isOn := goodIn_r _ [414, 57, 144, 145, 146, 5, 147, 58, 148, 149, 150, 415, 416, 417, 418, 288, 289, 290, 291, 37, 159, 160, 161, 162, 39, 681, 682, 683, 684, 685, 686] (by decide +kernel) (by decide +kernel)
set_option maxRecDepth 20000 in
theorem gL_law_X2_isOn : GoodIn wsL_law (wsV RL 152 RX2 yX2_isOn wsX2_isOn) := goodIn_app (goodIn_of _ (by decide +kernel)) ggL_law_X2_isOn
set_option maxRecDepth 20000 in
theorem ggL_law_L_headingsOn : GoodIn wsL_law wsL_headingsOn := goodIn_ca (goodIn_r _ [421, 71, 422, 423, 424, 2, 425, 268, 269, 270, 271, 90, 91, 25, 272, 273, 274, 275, 24, 96, 97, 98, 99, 14, 23, 82, 83, 84, 85, 276, 277, 278, 16, 279, 32, 30, 31, 672, 673, 674, 675, 676, 677, 678, 679, 680, 687, 688, 689] (by decide +kernel) (by decide +kernel)) (goodIn_sub (fun _ h => List.mem_append_right _ h) (by decide +kernel))
set_option maxRecDepth 20000 in
theorem gL_law_L_headingsOn : GoodIn wsL_law (va_wsS RL 153 yL_headingsOn wsL_headingsOn) := goodIn_app (goodIn_of _ (by decide +kernel)) ggL_law_L_headingsOn
set_option maxRecDepth 20000 in
theorem ggL_law_X2_headingsOn : GoodIn wsL_law wsX2_headingsOn := goodIn_r _ [429, 57, 288, 289, 290, 5, 291, 37, 148, 149, 150, 292, 293, 294, 295, 58, 159, 160, 161, 162, 39, 59, 60, 61, 62, 681, 682, 683, 684, 685, 686] (by decide +kernel) (by decide +kernel)
set_option maxRecDepth 20000 in
theorem gL_law_X2_headingsOn : GoodIn wsL_law (wsV RL 155 RX2 yX2_headingsOn wsX2_headingsOn) := goodIn_app (goodIn_of _ (by decide +kernel)) ggL_law_X2_headingsOn
set_option maxRecDepth 20000 in
theorem ggL_law_X1_barePages : GoodIn wsL_law wsX1_barePages := goodIn_r _ [433, 25, 20, 434, 435, 436, 2, 437, 24, 96, 97, 98, 99, 14, 23, 82, 83, 84, 85, 438, 439, 440, 441, 128, 129, 130, 16, 131, 32, 338, 117, 118, 119, 30, 442, 443, 444, 445, 358, 121, 122, 123, 31, 672, 673, 674, 675, 676, 677, 678, 679, 680, 687, 688, 689] (by decide +kernel) (by decide +kernel)
set_option maxRecDepth 20000 in
theorem gL_law_X1_barePages : GoodIn wsL_law (wsV RL 156 RX1 yX1_barePages wsX1_barePages) := goodIn_app (goodIn_of _ (by decide +kernel)) ggL_law_X1_barePages
set_option maxRecDepth 20000 in
theorem ggL_law_X2_barePages : GoodIn wsL_law wsX2_barePages := goodIn_r _ [449, 450, 451, 452, 5, 453, 37, 292, 293, 294, 295, 58, 159, 160, 161, 162, 39, 304, 305, 306, 307, 57, 681, 682, 683, 684, 685, 686] (by decide +kernel) (by decide +kernel)
set_option maxRecDepth 20000 in
theorem gL_law_X2_barePages : GoodIn wsL_law (wsV RL 159 RX2 yX2_barePages wsX2_barePages) := goodIn_app (goodIn_of _ (by decide +kernel)) ggL_law_X2_barePages
set_option maxRecDepth 20000 in
theorem ggL_law_X1_fullestPage : GoodIn wsL_law wsX1_fullestPage := goodIn_r _ [457, 25, 20, 434, 435, 436, 2, 437, 24, 96, 97, 98, 99, 14, 23, 82, 83, 84, 85, 438, 439, 440, 441, 128, 129, 130, 16, 131, 32, 338, 117, 118, 119, 30, 442, 443, 444, 445, 358, 121, 122, 123, 31, 672, 673, 674, 675, 676, 677, 678, 679, 680, 687, 688, 689] (by decide +kernel) (by decide +kernel)
set_option maxRecDepth 20000 in
theorem gL_law_X1_fullestPage : GoodIn wsL_law (wsV RL 160 RX1 yX1_fullestPage wsX1_fullestPage) := goodIn_app (goodIn_of _ (by decide +kernel)) ggL_law_X1_fullestPage
set_option maxRecDepth 20000 in
theorem ggL_law_X2_fullestPage : GoodIn wsL_law wsX2_fullestPage := goodIn_r _ [461, 462, 463, 464, 5, 465, 37, 292, 293, 294, 295, 58, 159, 160, 161, 162, 39, 304, 305, 306, 307, 57, 681, 682, 683, 684, 685, 686] (by decide +kernel) (by decide +kernel)
set_option maxRecDepth 20000 in
theorem gL_law_X2_fullestPage : GoodIn wsL_law (wsV RL 163 RX2 yX2_fullestPage wsX2_fullestPage) := goodIn_app (goodIn_of _ (by decide +kernel)) ggL_law_X2_fullestPage
set_option maxRecDepth 20000 in
theorem ggL_law_L_leadsTo : GoodIn wsL_law wsL_leadsTo := goodIn_ca (goodIn_r _ [468, 70, 469, 470, 471, 2, 472, 76, 77, 78, 79, 80, 81, 82, 83, 84, 85, 24, 473, 474, 475, 476, 92, 93, 94, 95, 18, 672, 673, 674, 675, 676, 677, 678, 679, 680] (by decide +kernel) (by decide +kernel)) (goodIn_sub (fun _ h => List.mem_append_left _ (List.mem_append_right _ h)) (by decide +kernel))
set_option maxRecDepth 20000 in
theorem gL_law_L_leadsTo : GoodIn wsL_law (va_wsS RL 164 yL_leadsTo wsL_leadsTo) := goodIn_app (goodIn_of _ (by decide +kernel)) ggL_law_L_leadsTo
set_option maxRecDepth 20000 in
theorem ggL_law_X2_leadsTo : GoodIn wsL_law wsX2_leadsTo := goodIn_r _ [480, 57, 144, 145, 146, 5, 147, 58, 148, 149, 150, 481, 482, 483, 484, 40, 59, 60, 61, 62, 681, 682, 683, 684, 685, 686] (by decide +kernel) (by decide +kernel)
set_option maxRecDepth 20000 in
theorem gL_law_X2_leadsTo : GoodIn wsL_law (wsV RL 166 RX2 yX2_leadsTo wsX2_leadsTo) := goodIn_app (goodIn_of _ (by decide +kernel)) ggL_law_X2_leadsTo
set_option maxRecDepth 20000 in
theorem ggL_law_X1_vainSees : GoodIn wsL_law wsX1_vainSees := goodIn_r _ [488, 24, 92, 93, 94, 2, 95, 18, 82, 83, 84, 85, 473, 474, 475, 476, 489, 490, 491, 492, 96, 97, 98, 99, 14, 23, 128, 129, 130, 16, 131, 32, 672, 673, 674, 675, 676, 677, 678, 679, 680, 687, 688, 689] (by decide +kernel) (by decide +kernel)
set_option maxRecDepth 20000 in
theorem gL_law_X1_vainSees : GoodIn wsL_law (wsV RL 167 RX1 yX1_vainSees wsX1_vainSees) := goodIn_app (goodIn_of _ (by decide +kernel)) ggL_law_X1_vainSees
set_option maxRecDepth 20000 in
theorem ggL_law_X2_vainSees : GoodIn wsL_law wsX2_vainSees := goodIn_r _ [496, 497, 498, 499, 5, 500, 58, 40, 481, 482, 483, 484, 201, 202, 203, 204, 37, 159, 160, 161, 162, 39, 304, 305, 306, 307, 57, 681, 682, 683, 684, 685, 686] (by decide +kernel) (by decide +kernel)
set_option maxRecDepth 20000 in
theorem gL_law_X2_vainSees : GoodIn wsL_law (wsV RL 170 RX2 yX2_vainSees wsX2_vainSees) := goodIn_app (goodIn_of _ (by decide +kernel)) ggL_law_X2_vainSees
set_option maxRecDepth 20000 in
theorem ggL_law_L_steps : GoodIn wsL_law wsL_steps := goodIn_ca (goodIn_r _ [503, 70, 504, 505, 506, 2, 507, 76, 77, 78, 79, 80, 81, 82, 83, 84, 85, 24, 231, 232, 233, 508, 509, 510, 511, 19, 18, 672, 673, 674, 675, 676, 677, 678, 679, 680] (by decide +kernel) (by decide +kernel)) (goodIn_sub (fun _ h => List.mem_append_left _ (List.mem_append_right _ h)) (by decide +kernel))
set_option maxRecDepth 20000 in
theorem gL_law_L_steps : GoodIn wsL_law (va_wsS RL 171 yL_steps wsL_steps) := goodIn_app (goodIn_of _ (by decide +kernel)) ggL_law_L_steps
set_option maxRecDepth 20000 in
theorem ggL_law_X2_steps : GoodIn wsL_law wsX2_steps := goodIn_r _ [515, 57, 144, 145, 146, 5, 147, 58, 148, 149, 150, 516, 517, 518, 519, 520, 521, 522, 523, 41, 40, 59, 60, 61, 62, 681, 682, 683, 684, 685, 686] (by decide +kernel) (by decide +kernel)
set_option maxRecDepth 20000 in
theorem gL_law_X2_steps : GoodIn wsL_law (wsV RL 173 RX2 yX2_steps wsX2_steps) := goodIn_app (goodIn_of _ (by decide +kernel)) ggL_law_X2_steps
set_option maxRecDepth 20000 in
theorem ggL_law_L_reachOf : GoodIn wsL_law wsL_reachOf := goodIn_ca (goodIn_r _ [526, 70, 527, 528, 529, 2, 530, 76, 77, 78, 79, 80, 81, 82, 83, 84, 85, 24, 531, 532, 533, 534, 231, 232, 233, 535, 536, 537, 538, 508, 509, 510, 511, 19, 18, 234, 235, 236, 237, 238, 239, 240, 672, 673, 674, 675, 676, 677, 678, 679, 680] (by decide +kernel) (by decide +kernel)) (goodIn_sub (fun _ h => List.mem_append_left _ (List.mem_append_right _ h)) (by decide +kernel))
set_option maxRecDepth 20000 in
theorem gL_law_L_reachOf : GoodIn wsL_law (va_wsS RL 174 yL_reachOf wsL_reachOf) := goodIn_app (goodIn_of _ (by decide +kernel)) ggL_law_L_reachOf
set_option maxRecDepth 20000 in
theorem ggL_law_X2_reachOf : GoodIn wsL_law wsX2_reachOf := goodIn_r _ [542, 57, 144, 145, 146, 5, 147, 58, 148, 149, 150, 543, 544, 545, 546, 520, 521, 522, 523, 41, 40, 245, 235, 236, 237, 238, 239, 240, 59, 60, 61, 62, 681, 682, 683, 684, 685, 686] (by decide +kernel) (by decide +kernel)
set_option maxRecDepth 20000 in
theorem gL_law_X2_reachOf : GoodIn wsL_law (wsV RL 176 RX2 yX2_reachOf wsX2_reachOf) := goodIn_app (goodIn_of _ (by decide +kernel)) ggL_law_X2_reachOf
set_option maxRecDepth 20000 in
theorem ggL_law_L_isInRing : GoodIn wsL_law wsL_isInRing := goodIn_ca (goodIn_r _ [549, 70, 550, 551, 552, 2, 553, 76, 77, 78, 79, 80, 81, 82, 83, 84, 85, 24, 554, 555, 556, 557, 231, 232, 233, 508, 509, 510, 511, 19, 18, 535, 536, 537, 538, 672, 673, 674, 675, 676, 677, 678, 679, 680] (by decide +kernel) (by decide +kernel)) (goodIn_sub (fun _ h => List.mem_append_left _ (List.mem_append_right _ h)) (by decide +kernel))
set_option maxRecDepth 20000 in
theorem gL_law_L_isInRing : GoodIn wsL_law (va_wsS RL 177 yL_isInRing wsL_isInRing) := goodIn_app (goodIn_of _ (by decide +kernel)) ggL_law_L_isInRing
set_option maxRecDepth 20000 in
theorem ggL_law_X2_isInRing : GoodIn wsL_law wsX2_isInRing := goodIn_r _ [561, 57, 144, 145, 146, 5, 147, 58, 148, 149, 150, 562, 563, 564, 565, 520, 521, 522, 523, 41, 40, 543, 544, 545, 546, 415, 416, 417, 418, 681, 682, 683, 684, 685, 686] (by decide +kernel) (by decide +kernel)
set_option maxRecDepth 20000 in
theorem gL_law_X2_isInRing : GoodIn wsL_law (wsV RL 179 RX2 yX2_isInRing wsX2_isInRing) := goodIn_app (goodIn_of _ (by decide +kernel)) ggL_law_X2_isInRing
set_option maxRecDepth 20000 in
theorem ggL_law_X1_unled : GoodIn wsL_law wsX1_unled := goodIn_r _ [569, 24, 508, 509, 510, 2, 511, 19, 18, 231, 232, 233, 234, 235, 236, 237, 238, 239, 240, 672, 673, 674, 675, 676, 677, 678, 679, 680] (by decide +kernel) (by decide +kernel)
set_option maxRecDepth 20000 in
theorem gL_law_X1_unled : GoodIn wsL_law (wsV RL 180 RX1 yX1_unled wsX1_unled) := goodIn_app (goodIn_of _ (by decide +kernel)) ggL_law_X1_unled
set_option maxRecDepth 20000 in
theorem ggL_law_X2_unled : GoodIn wsL_law wsX2_unled := goodIn_r _ [573, 574, 575, 576, 5, 577, 58, 520, 521, 522, 523, 41, 40, 245, 235, 236, 237, 238, 239, 240, 304, 305, 306, 307, 57, 681, 682, 683, 684, 685, 686] (by decide +kernel) (by decide +kernel)
set_option maxRecDepth 20000 in
theorem gL_law_X2_unled : GoodIn wsL_law (wsV RL 183 RX2 yX2_unled wsX2_unled) := goodIn_app (goodIn_of _ (by decide +kernel)) ggL_law_X2_unled
set_option maxRecDepth 20000 in
theorem ggL_law_L_spansWithGap : GoodIn wsL_law wsL_spansWithGap := goodIn_ca (goodIn_ca (goodIn_r _ [580, 70, 71, 581, 582, 583, 2, 584, 90, 91, 22, 76, 77, 78, 79, 80, 81, 82, 83, 84, 85, 24, 96, 97, 98, 99, 14, 23, 585, 137, 138, 16, 139, 32, 30, 31, 104, 105, 106, 107, 108, 109, 110, 111, 128, 129, 130, 131, 672, 673, 674, 675, 676, 677, 678, 679, 680, 687, 688, 689] (by decide +kernel) (by decide +kernel)) (goodIn_sub (fun _ h => List.mem_append_right _ h) (by decide +kernel))) (goodIn_sub (fun _ h => List.mem_append_left _ (List.mem_append_right _ h)) (by decide +kernel))
set_option maxRecDepth 20000 in
theorem gL_law_L_spansWithGap : GoodIn wsL_law (va_wsS RL 184 yL_spansWithGap wsL_spansWithGap) := goodIn_app (goodIn_of _ (by decide +kernel)) ggL_law_L_spansWithGap
set_option maxRecDepth 20000 in
theorem ggL_law_X2_spansWithGap : GoodIn wsL_law wsX2_spansWithGap := goodIn_r _ [589, 57, 144, 145, 146, 5, 147, 58, 148, 149, 150, 59, 60, 61, 62, 171, 172, 173, 174, 37, 159, 160, 161, 162, 39, 681, 682, 683, 684, 685, 686] (by decide +kernel) (by decide +kernel)
set_option maxRecDepth 20000 in
theorem gL_law_X2_spansWithGap : GoodIn wsL_law (wsV RL 186 RX2 yX2_spansWithGap wsX2_spansWithGap) := goodIn_app (goodIn_of _ (by decide +kernel)) ggL_law_X2_spansWithGap
set_option maxRecDepth 20000 in
theorem ggL_law_L_commonPages : GoodIn wsL_law wsL_commonPages := goodIn_ca (goodIn_r _ [592, 70, 593, 594, 595, 2, 596, 76, 77, 78, 79, 80, 81, 82, 83, 84, 85, 24, 96, 97, 98, 99, 14, 23, 597, 598, 599, 16, 600, 32, 30, 108, 109, 110, 111, 31, 186, 187, 188, 672, 673, 674, 675, 676, 677, 678, 679, 680, 687, 688, 689] (by decide +kernel) (by decide +kernel)) (goodIn_sub (fun _ h => List.mem_append_left _ (List.mem_append_right _ h)) (by decide +kernel))
set_option maxRecDepth 20000 in
theorem gL_law_L_commonPages : GoodIn wsL_law (va_wsS RL 187 yL_commonPages wsL_commonPages) := goodIn_app (goodIn_of _ (by decide +kernel)) ggL_law_L_commonPages
set_option maxRecDepth 20000 in
theorem ggL_law_X2_commonPages : GoodIn wsL_law wsX2_commonPages := goodIn_r _ [604, 57, 144, 145, 146, 5, 147, 58, 148, 149, 150, 605, 606, 607, 608, 37, 159, 160, 161, 162, 39, 59, 60, 61, 62, 681, 682, 683, 684, 685, 686] (by decide +kernel) (by decide +kernel)
set_option maxRecDepth 20000 in
theorem gL_law_X2_commonPages : GoodIn wsL_law (wsV RL 189 RX2 yX2_commonPages wsX2_commonPages) := goodIn_app (goodIn_of _ (by decide +kernel)) ggL_law_X2_commonPages
set_option maxRecDepth 20000 in
theorem ggL_law_L_nearest : GoodIn wsL_law wsL_nearest := goodIn_ca (goodIn_r _ [611, 70, 612, 613, 614, 2, 615, 76, 77, 78, 79, 80, 81, 82, 83, 84, 85, 24, 616, 617, 618, 619, 96, 97, 98, 99, 14, 23, 597, 598, 599, 16, 600, 32, 30, 108, 109, 110, 111, 31, 186, 187, 188, 672, 673, 674, 675, 676, 677, 678, 679, 680, 687, 688, 689] (by decide +kernel) (by decide +kernel)) (goodIn_sub (fun _ h => List.mem_append_left _ (List.mem_append_right _ h)) (by decide +kernel))
set_option maxRecDepth 20000 in
theorem gL_law_L_nearest : GoodIn wsL_law (va_wsS RL 190 yL_nearest wsL_nearest) := goodIn_app (goodIn_of _ (by decide +kernel)) ggL_law_L_nearest
set_option maxRecDepth 20000 in
theorem ggL_law_X2_nearest : GoodIn wsL_law wsX2_nearest := goodIn_r _ [623, 57, 144, 145, 146, 5, 147, 58, 148, 149, 150, 624, 625, 626, 627, 605, 606, 607, 608, 37, 159, 160, 161, 162, 39, 59, 60, 61, 62, 681, 682, 683, 684, 685, 686] (by decide +kernel) (by decide +kernel)
set_option maxRecDepth 20000 in
theorem gL_law_X2_nearest : GoodIn wsL_law (wsV RL 192 RX2 yX2_nearest wsX2_nearest) := goodIn_app (goodIn_of _ (by decide +kernel)) ggL_law_X2_nearest
set_option maxRecDepth 20000 in
theorem ggL_law_L_spansTogether : GoodIn wsL_law wsL_spansTogether := goodIn_ca (goodIn_r _ [630, 70, 631, 632, 633, 2, 634, 22, 76, 77, 78, 79, 80, 81, 82, 83, 84, 85, 24, 96, 97, 98, 99, 14, 23, 112, 113, 114, 16, 115, 32, 30, 116, 117, 118, 119, 120, 121, 122, 123, 31, 104, 105, 106, 107, 108, 109, 110, 111, 128, 129, 130, 131, 672, 673, 674, 675, 676, 677, 678, 679, 680, 687, 688, 689] (by decide +kernel) (by decide +kernel)) (goodIn_sub (fun _ h => List.mem_append_left _ (List.mem_append_right _ h)) (by decide +kernel))
set_option maxRecDepth 20000 in
theorem gL_law_L_spansTogether : GoodIn wsL_law (va_wsS RL 193 yL_spansTogether wsL_spansTogether) := goodIn_app (goodIn_of _ (by decide +kernel)) ggL_law_L_spansTogether
set_option maxRecDepth 20000 in
theorem ggL_law_X2_spansTogether : GoodIn wsL_law wsX2_spansTogether := goodIn_r _ [638, 57, 144, 145, 146, 5, 147, 58, 148, 149, 150, 171, 172, 173, 174, 37, 159, 160, 161, 162, 39, 59, 60, 61, 62, 681, 682, 683, 684, 685, 686] (by decide +kernel) (by decide +kernel)
set_option maxRecDepth 20000 in
theorem gL_law_X2_spansTogether : GoodIn wsL_law (wsV RL 195 RX2 yX2_spansTogether wsX2_spansTogether) := goodIn_app (goodIn_of _ (by decide +kernel)) ggL_law_X2_spansTogether
set_option maxRecDepth 20000 in
theorem ggL_law_X1_meanPages : GoodIn wsL_law wsX1_meanPages := goodIn_r _ [642, 24, 96, 97, 98, 2, 99, 14, 23, 82, 83, 84, 85, 193, 194, 195, 16, 196, 32, 31, 30, 672, 673, 674, 675, 676, 677, 678, 679, 680, 687, 688, 689] (by decide +kernel) (by decide +kernel)
set_option maxRecDepth 20000 in
theorem gL_law_X1_meanPages : GoodIn wsL_law (wsV RL 196 RX1 yX1_meanPages wsX1_meanPages) := goodIn_app (goodIn_of _ (by decide +kernel)) ggL_law_X1_meanPages
set_option maxRecDepth 20000 in
theorem ggL_law_X2_meanPages : GoodIn wsL_law wsX2_meanPages := goodIn_r _ [646, 57, 58, 201, 202, 203, 5, 204, 37, 159, 160, 161, 162, 39, 681, 682, 683, 684, 685, 686] (by decide +kernel) (by decide +kernel)
set_option maxRecDepth 20000 in
theorem gL_law_X2_meanPages : GoodIn wsL_law (wsV RL 200 RX2 yX2_meanPages wsX2_meanPages) := goodIn_app (goodIn_of _ (by decide +kernel)) ggL_law_X2_meanPages
set_option maxRecDepth 20000 in
theorem ggL_law_X1_digest : GoodIn wsL_law wsX1_digest := goodIn_r _ [650, 651, 24, 652, 297, 298, 2, 299, 25, 653, 654, 655, 656, 657, 309, 310, 311, 658, 431, 432, 433, 20, 434, 435, 436, 437, 96, 97, 98, 99, 14, 23, 82, 83, 84, 85, 438, 439, 440, 441, 128, 129, 130, 16, 131, 32, 338, 117, 118, 119, 30, 442, 443, 444, 445, 358, 121, 122, 123, 31, 659, 455, 456, 457, 660, 486, 487, 488, 92, 93, 94, 95, 18, 473, 474, 475, 476, 489, 490, 491, 492, 661, 567, 568, 569, 508, 509, 510, 511, 19, 231, 232, 233, 234, 235, 236, 237, 238, 239, 240, 662, 663, 664, 665, 193, 194, 195, 196, 396, 397, 398, 399, 531, 532, 533, 534, 535, 536, 537, 538, 554, 555, 556, 557, 616, 617, 618, 619, 597, 598, 599, 600, 108, 109, 110, 111, 186, 187, 188, 672, 673, 674, 675, 676, 677, 678, 679, 680, 687, 688, 689] (by decide +kernel) (by decide +kernel)
set_option maxRecDepth 20000 in
theorem gL_law_X1_digest : GoodIn wsL_law (wsV RL 201 RX1 yX1_digest wsX1_digest) := goodIn_app (goodIn_of _ (by decide +kernel)) ggL_law_X1_digest
set_option maxRecDepth 20000 in
theorem ggL_law_X2_digest : GoodIn wsL_law wsX2_digest := goodIn_r _ [669, 57, 17, 37, 58, 670, 671, 40, 41, 450, 451, 452, 5, 453, 292, 293, 294, 295, 159, 160, 161, 162, 39, 462, 463, 464, 465, 497, 498, 499, 500, 481, 482, 483, 484, 201, 202, 203, 204, 574, 575, 576, 577, 520, 521, 522, 523, 245, 235, 236, 237, 238, 239, 240, 171, 172, 173, 174, 543, 544, 545, 546, 562, 563, 564, 565, 624, 625, 626, 627, 605, 606, 607, 608, 347, 348, 349, 350, 363, 364, 365, 366, 681, 682, 683, 684, 685, 686] (by decide +kernel) (by decide +kernel)
set_option maxRecDepth 20000 in
theorem gL_law_X2_digest : GoodIn wsL_law (wsV RL 205 RX2 yX2_digest wsX2_digest) := goodIn_app (goodIn_of _ (by decide +kernel)) ggL_law_X2_digest
theorem dL_law_0 : decode cL_law 0 = .ok (.new 8, 3) := by decide +kernel
theorem dL_law_3 : decode cL_law 3 = .ok (.dup, 1) := by decide +kernel
theorem dL_law_4 : decode cL_law 4 = .ok (.invokespecial 90, 3) := by decide +kernel
theorem dL_law_7 : decode cL_law 7 = .ok (.astore_n 1, 1) := by decide +kernel
theorem dL_law_8 : decode cL_law 8 = .ok (.new 91, 3) := by decide +kernel
theorem dL_law_11 : decode cL_law 11 = .ok (.dup, 1) := by decide +kernel
theorem dL_law_12 : decode cL_law 12 = .ok (.invokespecial 93, 3) := by decide +kernel
theorem dL_law_15 : decode cL_law 15 = .ok (.astore_n 2, 1) := by decide +kernel
theorem dL_law_16 : decode cL_law 16 = .ok (.iconst 1, 1) := by decide +kernel
theorem dL_law_17 : decode cL_law 17 = .ok (.newarray .long, 2) := by decide +kernel
theorem dL_law_19 : decode cL_law 19 = .ok (.astore_n 3, 1) := by decide +kernel
theorem dL_law_20 : decode cL_law 20 = .ok (.iconst 0, 1) := by decide +kernel
theorem dL_law_21 : decode cL_law 21 = .ok (.istore 4, 2) := by decide +kernel
theorem dL_law_23 : decode cL_law 23 = .ok (.iload 4, 2) := by decide +kernel
theorem dL_law_25 : decode cL_law 25 = .ok (.aload_n 0, 1) := by decide +kernel
theorem dL_law_26 : decode cL_law 26 = .ok (.arraylength, 1) := by decide +kernel
theorem dL_law_27 : decode cL_law 27 = .ok (.iconst 4, 1) := by decide +kernel
theorem dL_law_28 : decode cL_law 28 = .ok (.isub, 1) := by decide +kernel
theorem dL_law_29 : decode cL_law 29 = .ok (.if_icmp .gt 1744, 3) := by decide +kernel
theorem dL_law_32 : decode cL_law 32 = .ok (.aload_n 0, 1) := by decide +kernel
theorem dL_law_33 : decode cL_law 33 = .ok (.iload 4, 2) := by decide +kernel
theorem dL_law_35 : decode cL_law 35 = .ok (.iaload, 1) := by decide +kernel
theorem dL_law_36 : decode cL_law 36 = .ok (.bipush 31, 2) := by decide +kernel
theorem dL_law_38 : decode cL_law 38 = .ok (.iand, 1) := by decide +kernel
theorem dL_law_39 : decode cL_law 39 = .ok (.tableswitch 1728 0 30 #[137, 181, 261, 341, 409, 477, 545, 601, 614, 627, 683, 751, 819, 875, 931, 987, 1062, 1118, 1131, 1144, 1200, 1213, 1281, 1337, 1400, 1413, 1481, 1549, 1605, 1673, 1714], 137) := by decide +kernel
theorem dL_law_176 : decode cL_law 176 = .ok (.aload_n 1, 1) := by decide +kernel
theorem dL_law_177 : decode cL_law 177 = .ok (.aload_n 3, 1) := by decide +kernel
theorem dL_law_178 : decode cL_law 178 = .ok (.invokestatic 94, 3) := by decide +kernel
theorem dL_law_181 : decode cL_law 181 = .ok (.istore 5, 2) := by decide +kernel
theorem dL_law_183 : decode cL_law 183 = .ok (.aload_n 2, 1) := by decide +kernel
theorem dL_law_184 : decode cL_law 184 = .ok (.invokevirtual 99, 3) := by decide +kernel
theorem dL_law_187 : decode cL_law 187 = .ok (.istore 6, 2) := by decide +kernel
theorem dL_law_189 : decode cL_law 189 = .ok (.aload_n 2, 1) := by decide +kernel
theorem dL_law_190 : decode cL_law 190 = .ok (.invokevirtual 100, 3) := by decide +kernel
theorem dL_law_193 : decode cL_law 193 = .ok (.iload 5, 2) := by decide +kernel
theorem dL_law_195 : decode cL_law 195 = .ok (.if_icmp .eq 5, 3) := by decide +kernel
theorem dL_law_198 : decode cL_law 198 = .ok (.iconst 0, 1) := by decide +kernel
theorem dL_law_199 : decode cL_law 199 = .ok (.ireturn, 1) := by decide +kernel
theorem dL_law_200 : decode cL_law 200 = .ok (.iload 5, 2) := by decide +kernel
theorem dL_law_202 : decode cL_law 202 = .ok (.ifCond .ne 15, 3) := by decide +kernel
theorem dL_law_205 : decode cL_law 205 = .ok (.aload_n 3, 1) := by decide +kernel
theorem dL_law_206 : decode cL_law 206 = .ok (.iconst 0, 1) := by decide +kernel
theorem dL_law_207 : decode cL_law 207 = .ok (.laload, 1) := by decide +kernel
theorem dL_law_208 : decode cL_law 208 = .ok (.iload 6, 2) := by decide +kernel
theorem dL_law_210 : decode cL_law 210 = .ok (.i2l, 1) := by decide +kernel
theorem dL_law_211 : decode cL_law 211 = .ok (.lcmp, 1) := by decide +kernel
theorem dL_law_212 : decode cL_law 212 = .ok (.ifCond .eq 5, 3) := by decide +kernel
theorem dL_law_215 : decode cL_law 215 = .ok (.iconst 0, 1) := by decide +kernel
theorem dL_law_216 : decode cL_law 216 = .ok (.ireturn, 1) := by decide +kernel
theorem dL_law_217 : decode cL_law 217 = .ok (.goto 1550, 3) := by decide +kernel
theorem dL_law_220 : decode cL_law 220 = .ok (.aload_n 1, 1) := by decide +kernel
theorem dL_law_221 : decode cL_law 221 = .ok (.aload_n 0, 1) := by decide +kernel
theorem dL_law_222 : decode cL_law 222 = .ok (.iload 4, 2) := by decide +kernel
theorem dL_law_224 : decode cL_law 224 = .ok (.iconst 1, 1) := by decide +kernel
theorem dL_law_225 : decode cL_law 225 = .ok (.iadd, 1) := by decide +kernel
theorem dL_law_226 : decode cL_law 226 = .ok (.iaload, 1) := by decide +kernel
theorem dL_law_227 : decode cL_law 227 = .ok (.aload_n 0, 1) := by decide +kernel
theorem dL_law_228 : decode cL_law 228 = .ok (.iload 4, 2) := by decide +kernel
theorem dL_law_230 : decode cL_law 230 = .ok (.iconst 2, 1) := by decide +kernel
theorem dL_law_231 : decode cL_law 231 = .ok (.iadd, 1) := by decide +kernel
theorem dL_law_232 : decode cL_law 232 = .ok (.iaload, 1) := by decide +kernel
theorem dL_law_233 : decode cL_law 233 = .ok (.aload_n 0, 1) := by decide +kernel
theorem dL_law_234 : decode cL_law 234 = .ok (.iload 4, 2) := by decide +kernel
theorem dL_law_236 : decode cL_law 236 = .ok (.iconst 3, 1) := by decide +kernel
theorem dL_law_237 : decode cL_law 237 = .ok (.iadd, 1) := by decide +kernel
theorem dL_law_238 : decode cL_law 238 = .ok (.iaload, 1) := by decide +kernel
theorem dL_law_239 : decode cL_law 239 = .ok (.aload_n 3, 1) := by decide +kernel
theorem dL_law_240 : decode cL_law 240 = .ok (.invokestatic 103, 3) := by decide +kernel
theorem dL_law_243 : decode cL_law 243 = .ok (.istore 5, 2) := by decide +kernel
theorem dL_law_245 : decode cL_law 245 = .ok (.aload_n 2, 1) := by decide +kernel
theorem dL_law_246 : decode cL_law 246 = .ok (.aload_n 0, 1) := by decide +kernel
theorem dL_law_247 : decode cL_law 247 = .ok (.iload 4, 2) := by decide +kernel
theorem dL_law_249 : decode cL_law 249 = .ok (.iconst 1, 1) := by decide +kernel
theorem dL_law_250 : decode cL_law 250 = .ok (.iadd, 1) := by decide +kernel
theorem dL_law_251 : decode cL_law 251 = .ok (.iaload, 1) := by decide +kernel
theorem dL_law_252 : decode cL_law 252 = .ok (.aload_n 0, 1) := by decide +kernel
theorem dL_law_253 : decode cL_law 253 = .ok (.iload 4, 2) := by decide +kernel
theorem dL_law_255 : decode cL_law 255 = .ok (.iconst 2, 1) := by decide +kernel
theorem dL_law_256 : decode cL_law 256 = .ok (.iadd, 1) := by decide +kernel
theorem dL_law_257 : decode cL_law 257 = .ok (.iaload, 1) := by decide +kernel
theorem dL_law_258 : decode cL_law 258 = .ok (.aload_n 0, 1) := by decide +kernel
theorem dL_law_259 : decode cL_law 259 = .ok (.iload 4, 2) := by decide +kernel
theorem dL_law_261 : decode cL_law 261 = .ok (.iconst 3, 1) := by decide +kernel
theorem dL_law_262 : decode cL_law 262 = .ok (.iadd, 1) := by decide +kernel
theorem dL_law_263 : decode cL_law 263 = .ok (.iaload, 1) := by decide +kernel
theorem dL_law_264 : decode cL_law 264 = .ok (.invokevirtual 106, 3) := by decide +kernel
theorem dL_law_267 : decode cL_law 267 = .ok (.istore 6, 2) := by decide +kernel
theorem dL_law_269 : decode cL_law 269 = .ok (.aload_n 2, 1) := by decide +kernel
theorem dL_law_270 : decode cL_law 270 = .ok (.invokevirtual 100, 3) := by decide +kernel
theorem dL_law_273 : decode cL_law 273 = .ok (.iload 5, 2) := by decide +kernel
theorem dL_law_275 : decode cL_law 275 = .ok (.if_icmp .eq 5, 3) := by decide +kernel
theorem dL_law_278 : decode cL_law 278 = .ok (.iconst 0, 1) := by decide +kernel
theorem dL_law_279 : decode cL_law 279 = .ok (.ireturn, 1) := by decide +kernel
theorem dL_law_280 : decode cL_law 280 = .ok (.iload 5, 2) := by decide +kernel
theorem dL_law_282 : decode cL_law 282 = .ok (.ifCond .ne 15, 3) := by decide +kernel
theorem dL_law_285 : decode cL_law 285 = .ok (.aload_n 3, 1) := by decide +kernel
theorem dL_law_286 : decode cL_law 286 = .ok (.iconst 0, 1) := by decide +kernel
theorem dL_law_287 : decode cL_law 287 = .ok (.laload, 1) := by decide +kernel
theorem dL_law_288 : decode cL_law 288 = .ok (.iload 6, 2) := by decide +kernel
theorem dL_law_290 : decode cL_law 290 = .ok (.i2l, 1) := by decide +kernel
theorem dL_law_291 : decode cL_law 291 = .ok (.lcmp, 1) := by decide +kernel
theorem dL_law_292 : decode cL_law 292 = .ok (.ifCond .eq 5, 3) := by decide +kernel
theorem dL_law_295 : decode cL_law 295 = .ok (.iconst 0, 1) := by decide +kernel
theorem dL_law_296 : decode cL_law 296 = .ok (.ireturn, 1) := by decide +kernel
theorem dL_law_297 : decode cL_law 297 = .ok (.goto 1470, 3) := by decide +kernel
theorem dL_law_300 : decode cL_law 300 = .ok (.aload_n 1, 1) := by decide +kernel
theorem dL_law_301 : decode cL_law 301 = .ok (.aload_n 0, 1) := by decide +kernel
theorem dL_law_302 : decode cL_law 302 = .ok (.iload 4, 2) := by decide +kernel
theorem dL_law_304 : decode cL_law 304 = .ok (.iconst 1, 1) := by decide +kernel
theorem dL_law_305 : decode cL_law 305 = .ok (.iadd, 1) := by decide +kernel
theorem dL_law_306 : decode cL_law 306 = .ok (.iaload, 1) := by decide +kernel
theorem dL_law_307 : decode cL_law 307 = .ok (.aload_n 0, 1) := by decide +kernel
theorem dL_law_308 : decode cL_law 308 = .ok (.iload 4, 2) := by decide +kernel
theorem dL_law_310 : decode cL_law 310 = .ok (.iconst 2, 1) := by decide +kernel
theorem dL_law_311 : decode cL_law 311 = .ok (.iadd, 1) := by decide +kernel
theorem dL_law_312 : decode cL_law 312 = .ok (.iaload, 1) := by decide +kernel
theorem dL_law_313 : decode cL_law 313 = .ok (.aload_n 0, 1) := by decide +kernel
theorem dL_law_314 : decode cL_law 314 = .ok (.iload 4, 2) := by decide +kernel
theorem dL_law_316 : decode cL_law 316 = .ok (.iconst 3, 1) := by decide +kernel
theorem dL_law_317 : decode cL_law 317 = .ok (.iadd, 1) := by decide +kernel
theorem dL_law_318 : decode cL_law 318 = .ok (.iaload, 1) := by decide +kernel
theorem dL_law_319 : decode cL_law 319 = .ok (.aload_n 3, 1) := by decide +kernel
theorem dL_law_320 : decode cL_law 320 = .ok (.invokestatic 107, 3) := by decide +kernel
theorem dL_law_323 : decode cL_law 323 = .ok (.istore 5, 2) := by decide +kernel
theorem dL_law_325 : decode cL_law 325 = .ok (.aload_n 2, 1) := by decide +kernel
theorem dL_law_326 : decode cL_law 326 = .ok (.aload_n 0, 1) := by decide +kernel
theorem dL_law_327 : decode cL_law 327 = .ok (.iload 4, 2) := by decide +kernel
theorem dL_law_329 : decode cL_law 329 = .ok (.iconst 1, 1) := by decide +kernel
theorem dL_law_330 : decode cL_law 330 = .ok (.iadd, 1) := by decide +kernel
theorem dL_law_331 : decode cL_law 331 = .ok (.iaload, 1) := by decide +kernel
theorem dL_law_332 : decode cL_law 332 = .ok (.aload_n 0, 1) := by decide +kernel
theorem dL_law_333 : decode cL_law 333 = .ok (.iload 4, 2) := by decide +kernel
theorem dL_law_335 : decode cL_law 335 = .ok (.iconst 2, 1) := by decide +kernel
theorem dL_law_336 : decode cL_law 336 = .ok (.iadd, 1) := by decide +kernel
theorem dL_law_337 : decode cL_law 337 = .ok (.iaload, 1) := by decide +kernel
theorem dL_law_338 : decode cL_law 338 = .ok (.aload_n 0, 1) := by decide +kernel
theorem dL_law_339 : decode cL_law 339 = .ok (.iload 4, 2) := by decide +kernel
theorem dL_law_341 : decode cL_law 341 = .ok (.iconst 3, 1) := by decide +kernel
theorem dL_law_342 : decode cL_law 342 = .ok (.iadd, 1) := by decide +kernel
theorem dL_law_343 : decode cL_law 343 = .ok (.iaload, 1) := by decide +kernel
theorem dL_law_344 : decode cL_law 344 = .ok (.invokevirtual 109, 3) := by decide +kernel
theorem dL_law_347 : decode cL_law 347 = .ok (.istore 6, 2) := by decide +kernel
theorem dL_law_349 : decode cL_law 349 = .ok (.aload_n 2, 1) := by decide +kernel
theorem dL_law_350 : decode cL_law 350 = .ok (.invokevirtual 100, 3) := by decide +kernel
theorem dL_law_353 : decode cL_law 353 = .ok (.iload 5, 2) := by decide +kernel
theorem dL_law_355 : decode cL_law 355 = .ok (.if_icmp .eq 5, 3) := by decide +kernel
theorem dL_law_358 : decode cL_law 358 = .ok (.iconst 0, 1) := by decide +kernel
theorem dL_law_359 : decode cL_law 359 = .ok (.ireturn, 1) := by decide +kernel
theorem dL_law_360 : decode cL_law 360 = .ok (.iload 5, 2) := by decide +kernel
theorem dL_law_362 : decode cL_law 362 = .ok (.ifCond .ne 15, 3) := by decide +kernel
theorem dL_law_365 : decode cL_law 365 = .ok (.aload_n 3, 1) := by decide +kernel
theorem dL_law_366 : decode cL_law 366 = .ok (.iconst 0, 1) := by decide +kernel
theorem dL_law_367 : decode cL_law 367 = .ok (.laload, 1) := by decide +kernel
theorem dL_law_368 : decode cL_law 368 = .ok (.iload 6, 2) := by decide +kernel
theorem dL_law_370 : decode cL_law 370 = .ok (.i2l, 1) := by decide +kernel
theorem dL_law_371 : decode cL_law 371 = .ok (.lcmp, 1) := by decide +kernel
theorem dL_law_372 : decode cL_law 372 = .ok (.ifCond .eq 5, 3) := by decide +kernel
theorem dL_law_375 : decode cL_law 375 = .ok (.iconst 0, 1) := by decide +kernel
theorem dL_law_376 : decode cL_law 376 = .ok (.ireturn, 1) := by decide +kernel
theorem dL_law_377 : decode cL_law 377 = .ok (.goto 1390, 3) := by decide +kernel
theorem dL_law_380 : decode cL_law 380 = .ok (.aload_n 1, 1) := by decide +kernel
theorem dL_law_381 : decode cL_law 381 = .ok (.aload_n 0, 1) := by decide +kernel
theorem dL_law_382 : decode cL_law 382 = .ok (.iload 4, 2) := by decide +kernel
theorem dL_law_384 : decode cL_law 384 = .ok (.iconst 1, 1) := by decide +kernel
theorem dL_law_385 : decode cL_law 385 = .ok (.iadd, 1) := by decide +kernel
theorem dL_law_386 : decode cL_law 386 = .ok (.iaload, 1) := by decide +kernel
theorem dL_law_387 : decode cL_law 387 = .ok (.aload_n 0, 1) := by decide +kernel
theorem dL_law_388 : decode cL_law 388 = .ok (.iload 4, 2) := by decide +kernel
theorem dL_law_390 : decode cL_law 390 = .ok (.iconst 2, 1) := by decide +kernel
theorem dL_law_391 : decode cL_law 391 = .ok (.iadd, 1) := by decide +kernel
theorem dL_law_392 : decode cL_law 392 = .ok (.iaload, 1) := by decide +kernel
theorem dL_law_393 : decode cL_law 393 = .ok (.aload_n 3, 1) := by decide +kernel
theorem dL_law_394 : decode cL_law 394 = .ok (.invokestatic 110, 3) := by decide +kernel
theorem dL_law_397 : decode cL_law 397 = .ok (.istore 5, 2) := by decide +kernel
theorem dL_law_399 : decode cL_law 399 = .ok (.aload_n 2, 1) := by decide +kernel
theorem dL_law_400 : decode cL_law 400 = .ok (.aload_n 0, 1) := by decide +kernel
theorem dL_law_401 : decode cL_law 401 = .ok (.iload 4, 2) := by decide +kernel
theorem dL_law_403 : decode cL_law 403 = .ok (.iconst 1, 1) := by decide +kernel
theorem dL_law_404 : decode cL_law 404 = .ok (.iadd, 1) := by decide +kernel
theorem dL_law_405 : decode cL_law 405 = .ok (.iaload, 1) := by decide +kernel
theorem dL_law_406 : decode cL_law 406 = .ok (.aload_n 0, 1) := by decide +kernel
theorem dL_law_407 : decode cL_law 407 = .ok (.iload 4, 2) := by decide +kernel
theorem dL_law_409 : decode cL_law 409 = .ok (.iconst 2, 1) := by decide +kernel
theorem dL_law_410 : decode cL_law 410 = .ok (.iadd, 1) := by decide +kernel
theorem dL_law_411 : decode cL_law 411 = .ok (.iaload, 1) := by decide +kernel
theorem dL_law_412 : decode cL_law 412 = .ok (.invokevirtual 113, 3) := by decide +kernel
theorem dL_law_415 : decode cL_law 415 = .ok (.istore 6, 2) := by decide +kernel
theorem dL_law_417 : decode cL_law 417 = .ok (.aload_n 2, 1) := by decide +kernel
theorem dL_law_418 : decode cL_law 418 = .ok (.invokevirtual 100, 3) := by decide +kernel
theorem dL_law_421 : decode cL_law 421 = .ok (.iload 5, 2) := by decide +kernel
theorem dL_law_423 : decode cL_law 423 = .ok (.if_icmp .eq 5, 3) := by decide +kernel
theorem dL_law_426 : decode cL_law 426 = .ok (.iconst 0, 1) := by decide +kernel
theorem dL_law_427 : decode cL_law 427 = .ok (.ireturn, 1) := by decide +kernel
theorem dL_law_428 : decode cL_law 428 = .ok (.iload 5, 2) := by decide +kernel
theorem dL_law_430 : decode cL_law 430 = .ok (.ifCond .ne 15, 3) := by decide +kernel
theorem dL_law_433 : decode cL_law 433 = .ok (.aload_n 3, 1) := by decide +kernel
theorem dL_law_434 : decode cL_law 434 = .ok (.iconst 0, 1) := by decide +kernel
theorem dL_law_435 : decode cL_law 435 = .ok (.laload, 1) := by decide +kernel
theorem dL_law_436 : decode cL_law 436 = .ok (.iload 6, 2) := by decide +kernel
theorem dL_law_438 : decode cL_law 438 = .ok (.i2l, 1) := by decide +kernel
theorem dL_law_439 : decode cL_law 439 = .ok (.lcmp, 1) := by decide +kernel
theorem dL_law_440 : decode cL_law 440 = .ok (.ifCond .eq 5, 3) := by decide +kernel
theorem dL_law_443 : decode cL_law 443 = .ok (.iconst 0, 1) := by decide +kernel
theorem dL_law_444 : decode cL_law 444 = .ok (.ireturn, 1) := by decide +kernel
theorem dL_law_445 : decode cL_law 445 = .ok (.goto 1322, 3) := by decide +kernel
theorem dL_law_448 : decode cL_law 448 = .ok (.aload_n 1, 1) := by decide +kernel
theorem dL_law_449 : decode cL_law 449 = .ok (.aload_n 0, 1) := by decide +kernel
theorem dL_law_450 : decode cL_law 450 = .ok (.iload 4, 2) := by decide +kernel
theorem dL_law_452 : decode cL_law 452 = .ok (.iconst 1, 1) := by decide +kernel
theorem dL_law_453 : decode cL_law 453 = .ok (.iadd, 1) := by decide +kernel
theorem dL_law_454 : decode cL_law 454 = .ok (.iaload, 1) := by decide +kernel
theorem dL_law_455 : decode cL_law 455 = .ok (.aload_n 0, 1) := by decide +kernel
theorem dL_law_456 : decode cL_law 456 = .ok (.iload 4, 2) := by decide +kernel
theorem dL_law_458 : decode cL_law 458 = .ok (.iconst 2, 1) := by decide +kernel
theorem dL_law_459 : decode cL_law 459 = .ok (.iadd, 1) := by decide +kernel
theorem dL_law_460 : decode cL_law 460 = .ok (.iaload, 1) := by decide +kernel
theorem dL_law_461 : decode cL_law 461 = .ok (.aload_n 3, 1) := by decide +kernel
theorem dL_law_462 : decode cL_law 462 = .ok (.invokestatic 114, 3) := by decide +kernel
theorem dL_law_465 : decode cL_law 465 = .ok (.istore 5, 2) := by decide +kernel
theorem dL_law_467 : decode cL_law 467 = .ok (.aload_n 2, 1) := by decide +kernel
theorem dL_law_468 : decode cL_law 468 = .ok (.aload_n 0, 1) := by decide +kernel
theorem dL_law_469 : decode cL_law 469 = .ok (.iload 4, 2) := by decide +kernel
theorem dL_law_471 : decode cL_law 471 = .ok (.iconst 1, 1) := by decide +kernel
theorem dL_law_472 : decode cL_law 472 = .ok (.iadd, 1) := by decide +kernel
theorem dL_law_473 : decode cL_law 473 = .ok (.iaload, 1) := by decide +kernel
theorem dL_law_474 : decode cL_law 474 = .ok (.aload_n 0, 1) := by decide +kernel
theorem dL_law_475 : decode cL_law 475 = .ok (.iload 4, 2) := by decide +kernel
theorem dL_law_477 : decode cL_law 477 = .ok (.iconst 2, 1) := by decide +kernel
theorem dL_law_478 : decode cL_law 478 = .ok (.iadd, 1) := by decide +kernel
theorem dL_law_479 : decode cL_law 479 = .ok (.iaload, 1) := by decide +kernel
theorem dL_law_480 : decode cL_law 480 = .ok (.invokevirtual 116, 3) := by decide +kernel
theorem dL_law_483 : decode cL_law 483 = .ok (.istore 6, 2) := by decide +kernel
theorem dL_law_485 : decode cL_law 485 = .ok (.aload_n 2, 1) := by decide +kernel
theorem dL_law_486 : decode cL_law 486 = .ok (.invokevirtual 100, 3) := by decide +kernel
theorem dL_law_489 : decode cL_law 489 = .ok (.iload 5, 2) := by decide +kernel
theorem dL_law_491 : decode cL_law 491 = .ok (.if_icmp .eq 5, 3) := by decide +kernel
theorem dL_law_494 : decode cL_law 494 = .ok (.iconst 0, 1) := by decide +kernel
theorem dL_law_495 : decode cL_law 495 = .ok (.ireturn, 1) := by decide +kernel
theorem dL_law_496 : decode cL_law 496 = .ok (.iload 5, 2) := by decide +kernel
theorem dL_law_498 : decode cL_law 498 = .ok (.ifCond .ne 15, 3) := by decide +kernel
theorem dL_law_501 : decode cL_law 501 = .ok (.aload_n 3, 1) := by decide +kernel
theorem dL_law_502 : decode cL_law 502 = .ok (.iconst 0, 1) := by decide +kernel
theorem dL_law_503 : decode cL_law 503 = .ok (.laload, 1) := by decide +kernel
theorem dL_law_504 : decode cL_law 504 = .ok (.iload 6, 2) := by decide +kernel
theorem dL_law_506 : decode cL_law 506 = .ok (.i2l, 1) := by decide +kernel
theorem dL_law_507 : decode cL_law 507 = .ok (.lcmp, 1) := by decide +kernel
theorem dL_law_508 : decode cL_law 508 = .ok (.ifCond .eq 5, 3) := by decide +kernel
theorem dL_law_511 : decode cL_law 511 = .ok (.iconst 0, 1) := by decide +kernel
theorem dL_law_512 : decode cL_law 512 = .ok (.ireturn, 1) := by decide +kernel
theorem dL_law_513 : decode cL_law 513 = .ok (.goto 1254, 3) := by decide +kernel
theorem dL_law_516 : decode cL_law 516 = .ok (.aload_n 1, 1) := by decide +kernel
theorem dL_law_517 : decode cL_law 517 = .ok (.aload_n 0, 1) := by decide +kernel
theorem dL_law_518 : decode cL_law 518 = .ok (.iload 4, 2) := by decide +kernel
theorem dL_law_520 : decode cL_law 520 = .ok (.iconst 1, 1) := by decide +kernel
theorem dL_law_521 : decode cL_law 521 = .ok (.iadd, 1) := by decide +kernel
theorem dL_law_522 : decode cL_law 522 = .ok (.iaload, 1) := by decide +kernel
theorem dL_law_523 : decode cL_law 523 = .ok (.aload_n 0, 1) := by decide +kernel
theorem dL_law_524 : decode cL_law 524 = .ok (.iload 4, 2) := by decide +kernel
theorem dL_law_526 : decode cL_law 526 = .ok (.iconst 2, 1) := by decide +kernel
theorem dL_law_527 : decode cL_law 527 = .ok (.iadd, 1) := by decide +kernel
theorem dL_law_528 : decode cL_law 528 = .ok (.iaload, 1) := by decide +kernel
theorem dL_law_529 : decode cL_law 529 = .ok (.aload_n 3, 1) := by decide +kernel
theorem dL_law_530 : decode cL_law 530 = .ok (.invokestatic 117, 3) := by decide +kernel
theorem dL_law_533 : decode cL_law 533 = .ok (.istore 5, 2) := by decide +kernel
theorem dL_law_535 : decode cL_law 535 = .ok (.aload_n 2, 1) := by decide +kernel
theorem dL_law_536 : decode cL_law 536 = .ok (.aload_n 0, 1) := by decide +kernel
theorem dL_law_537 : decode cL_law 537 = .ok (.iload 4, 2) := by decide +kernel
theorem dL_law_539 : decode cL_law 539 = .ok (.iconst 1, 1) := by decide +kernel
theorem dL_law_540 : decode cL_law 540 = .ok (.iadd, 1) := by decide +kernel
theorem dL_law_541 : decode cL_law 541 = .ok (.iaload, 1) := by decide +kernel
theorem dL_law_542 : decode cL_law 542 = .ok (.aload_n 0, 1) := by decide +kernel
theorem dL_law_543 : decode cL_law 543 = .ok (.iload 4, 2) := by decide +kernel
theorem dL_law_545 : decode cL_law 545 = .ok (.iconst 2, 1) := by decide +kernel
theorem dL_law_546 : decode cL_law 546 = .ok (.iadd, 1) := by decide +kernel
theorem dL_law_547 : decode cL_law 547 = .ok (.iaload, 1) := by decide +kernel
theorem dL_law_548 : decode cL_law 548 = .ok (.invokevirtual 119, 3) := by decide +kernel
theorem dL_law_551 : decode cL_law 551 = .ok (.istore 6, 2) := by decide +kernel
theorem dL_law_553 : decode cL_law 553 = .ok (.aload_n 2, 1) := by decide +kernel
theorem dL_law_554 : decode cL_law 554 = .ok (.invokevirtual 100, 3) := by decide +kernel
theorem dL_law_557 : decode cL_law 557 = .ok (.iload 5, 2) := by decide +kernel
theorem dL_law_559 : decode cL_law 559 = .ok (.if_icmp .eq 5, 3) := by decide +kernel
theorem dL_law_562 : decode cL_law 562 = .ok (.iconst 0, 1) := by decide +kernel
theorem dL_law_563 : decode cL_law 563 = .ok (.ireturn, 1) := by decide +kernel
theorem dL_law_564 : decode cL_law 564 = .ok (.iload 5, 2) := by decide +kernel
theorem dL_law_566 : decode cL_law 566 = .ok (.ifCond .ne 15, 3) := by decide +kernel
theorem dL_law_569 : decode cL_law 569 = .ok (.aload_n 3, 1) := by decide +kernel
theorem dL_law_570 : decode cL_law 570 = .ok (.iconst 0, 1) := by decide +kernel
theorem dL_law_571 : decode cL_law 571 = .ok (.laload, 1) := by decide +kernel
theorem dL_law_572 : decode cL_law 572 = .ok (.iload 6, 2) := by decide +kernel
theorem dL_law_574 : decode cL_law 574 = .ok (.i2l, 1) := by decide +kernel
theorem dL_law_575 : decode cL_law 575 = .ok (.lcmp, 1) := by decide +kernel
theorem dL_law_576 : decode cL_law 576 = .ok (.ifCond .eq 5, 3) := by decide +kernel
theorem dL_law_579 : decode cL_law 579 = .ok (.iconst 0, 1) := by decide +kernel
theorem dL_law_580 : decode cL_law 580 = .ok (.ireturn, 1) := by decide +kernel
theorem dL_law_581 : decode cL_law 581 = .ok (.goto 1186, 3) := by decide +kernel
theorem dL_law_584 : decode cL_law 584 = .ok (.aload_n 1, 1) := by decide +kernel
theorem dL_law_585 : decode cL_law 585 = .ok (.aload_n 0, 1) := by decide +kernel
theorem dL_law_586 : decode cL_law 586 = .ok (.iload 4, 2) := by decide +kernel
theorem dL_law_588 : decode cL_law 588 = .ok (.iconst 1, 1) := by decide +kernel
theorem dL_law_589 : decode cL_law 589 = .ok (.iadd, 1) := by decide +kernel
theorem dL_law_590 : decode cL_law 590 = .ok (.iaload, 1) := by decide +kernel
theorem dL_law_591 : decode cL_law 591 = .ok (.aload_n 3, 1) := by decide +kernel
theorem dL_law_592 : decode cL_law 592 = .ok (.invokestatic 120, 3) := by decide +kernel
theorem dL_law_595 : decode cL_law 595 = .ok (.istore 5, 2) := by decide +kernel
theorem dL_law_597 : decode cL_law 597 = .ok (.aload_n 2, 1) := by decide +kernel
theorem dL_law_598 : decode cL_law 598 = .ok (.aload_n 0, 1) := by decide +kernel
theorem dL_law_599 : decode cL_law 599 = .ok (.iload 4, 2) := by decide +kernel
theorem dL_law_601 : decode cL_law 601 = .ok (.iconst 1, 1) := by decide +kernel
theorem dL_law_602 : decode cL_law 602 = .ok (.iadd, 1) := by decide +kernel
theorem dL_law_603 : decode cL_law 603 = .ok (.iaload, 1) := by decide +kernel
theorem dL_law_604 : decode cL_law 604 = .ok (.invokevirtual 123, 3) := by decide +kernel
theorem dL_law_607 : decode cL_law 607 = .ok (.istore 6, 2) := by decide +kernel
theorem dL_law_609 : decode cL_law 609 = .ok (.aload_n 2, 1) := by decide +kernel
theorem dL_law_610 : decode cL_law 610 = .ok (.invokevirtual 100, 3) := by decide +kernel
theorem dL_law_613 : decode cL_law 613 = .ok (.iload 5, 2) := by decide +kernel
theorem dL_law_615 : decode cL_law 615 = .ok (.if_icmp .eq 5, 3) := by decide +kernel
theorem dL_law_618 : decode cL_law 618 = .ok (.iconst 0, 1) := by decide +kernel
theorem dL_law_619 : decode cL_law 619 = .ok (.ireturn, 1) := by decide +kernel
theorem dL_law_620 : decode cL_law 620 = .ok (.iload 5, 2) := by decide +kernel
theorem dL_law_622 : decode cL_law 622 = .ok (.ifCond .ne 15, 3) := by decide +kernel
theorem dL_law_625 : decode cL_law 625 = .ok (.aload_n 3, 1) := by decide +kernel
theorem dL_law_626 : decode cL_law 626 = .ok (.iconst 0, 1) := by decide +kernel
theorem dL_law_627 : decode cL_law 627 = .ok (.laload, 1) := by decide +kernel
theorem dL_law_628 : decode cL_law 628 = .ok (.iload 6, 2) := by decide +kernel
theorem dL_law_630 : decode cL_law 630 = .ok (.i2l, 1) := by decide +kernel
theorem dL_law_631 : decode cL_law 631 = .ok (.lcmp, 1) := by decide +kernel
theorem dL_law_632 : decode cL_law 632 = .ok (.ifCond .eq 5, 3) := by decide +kernel
theorem dL_law_635 : decode cL_law 635 = .ok (.iconst 0, 1) := by decide +kernel
theorem dL_law_636 : decode cL_law 636 = .ok (.ireturn, 1) := by decide +kernel
theorem dL_law_637 : decode cL_law 637 = .ok (.goto 1130, 3) := by decide +kernel
theorem dL_law_640 : decode cL_law 640 = .ok (.aload_n 1, 1) := by decide +kernel
theorem dL_law_641 : decode cL_law 641 = .ok (.invokevirtual 124, 3) := by decide +kernel
theorem dL_law_644 : decode cL_law 644 = .ok (.aload_n 2, 1) := by decide +kernel
theorem dL_law_645 : decode cL_law 645 = .ok (.invokevirtual 127, 3) := by decide +kernel
theorem dL_law_648 : decode cL_law 648 = .ok (.if_icmp .eq 1119, 3) := by decide +kernel
theorem dL_law_651 : decode cL_law 651 = .ok (.iconst 0, 1) := by decide +kernel
theorem dL_law_652 : decode cL_law 652 = .ok (.ireturn, 1) := by decide +kernel
theorem dL_law_653 : decode cL_law 653 = .ok (.aload_n 1, 1) := by decide +kernel
theorem dL_law_654 : decode cL_law 654 = .ok (.invokevirtual 128, 3) := by decide +kernel
theorem dL_law_657 : decode cL_law 657 = .ok (.aload_n 2, 1) := by decide +kernel
theorem dL_law_658 : decode cL_law 658 = .ok (.invokevirtual 131, 3) := by decide +kernel
theorem dL_law_661 : decode cL_law 661 = .ok (.if_icmp .eq 1106, 3) := by decide +kernel
theorem dL_law_664 : decode cL_law 664 = .ok (.iconst 0, 1) := by decide +kernel
theorem dL_law_665 : decode cL_law 665 = .ok (.ireturn, 1) := by decide +kernel
theorem dL_law_666 : decode cL_law 666 = .ok (.aload_n 1, 1) := by decide +kernel
theorem dL_law_667 : decode cL_law 667 = .ok (.aload_n 0, 1) := by decide +kernel
theorem dL_law_668 : decode cL_law 668 = .ok (.iload 4, 2) := by decide +kernel
theorem dL_law_670 : decode cL_law 670 = .ok (.iconst 1, 1) := by decide +kernel
theorem dL_law_671 : decode cL_law 671 = .ok (.iadd, 1) := by decide +kernel
theorem dL_law_672 : decode cL_law 672 = .ok (.iaload, 1) := by decide +kernel
theorem dL_law_673 : decode cL_law 673 = .ok (.aload_n 3, 1) := by decide +kernel
theorem dL_law_674 : decode cL_law 674 = .ok (.invokestatic 132, 3) := by decide +kernel
theorem dL_law_677 : decode cL_law 677 = .ok (.istore 5, 2) := by decide +kernel
theorem dL_law_679 : decode cL_law 679 = .ok (.aload_n 2, 1) := by decide +kernel
theorem dL_law_680 : decode cL_law 680 = .ok (.aload_n 0, 1) := by decide +kernel
theorem dL_law_681 : decode cL_law 681 = .ok (.iload 4, 2) := by decide +kernel
theorem dL_law_683 : decode cL_law 683 = .ok (.iconst 1, 1) := by decide +kernel
theorem dL_law_684 : decode cL_law 684 = .ok (.iadd, 1) := by decide +kernel
theorem dL_law_685 : decode cL_law 685 = .ok (.iaload, 1) := by decide +kernel
theorem dL_law_686 : decode cL_law 686 = .ok (.invokevirtual 134, 3) := by decide +kernel
theorem dL_law_689 : decode cL_law 689 = .ok (.istore 6, 2) := by decide +kernel
theorem dL_law_691 : decode cL_law 691 = .ok (.aload_n 2, 1) := by decide +kernel
theorem dL_law_692 : decode cL_law 692 = .ok (.invokevirtual 100, 3) := by decide +kernel
theorem dL_law_695 : decode cL_law 695 = .ok (.iload 5, 2) := by decide +kernel
theorem dL_law_697 : decode cL_law 697 = .ok (.if_icmp .eq 5, 3) := by decide +kernel
theorem dL_law_700 : decode cL_law 700 = .ok (.iconst 0, 1) := by decide +kernel
theorem dL_law_701 : decode cL_law 701 = .ok (.ireturn, 1) := by decide +kernel
theorem dL_law_702 : decode cL_law 702 = .ok (.iload 5, 2) := by decide +kernel
theorem dL_law_704 : decode cL_law 704 = .ok (.ifCond .ne 15, 3) := by decide +kernel
theorem dL_law_707 : decode cL_law 707 = .ok (.aload_n 3, 1) := by decide +kernel
theorem dL_law_708 : decode cL_law 708 = .ok (.iconst 0, 1) := by decide +kernel
theorem dL_law_709 : decode cL_law 709 = .ok (.laload, 1) := by decide +kernel
theorem dL_law_710 : decode cL_law 710 = .ok (.iload 6, 2) := by decide +kernel
theorem dL_law_712 : decode cL_law 712 = .ok (.i2l, 1) := by decide +kernel
theorem dL_law_713 : decode cL_law 713 = .ok (.lcmp, 1) := by decide +kernel
theorem dL_law_714 : decode cL_law 714 = .ok (.ifCond .eq 5, 3) := by decide +kernel
theorem dL_law_717 : decode cL_law 717 = .ok (.iconst 0, 1) := by decide +kernel
theorem dL_law_718 : decode cL_law 718 = .ok (.ireturn, 1) := by decide +kernel
theorem dL_law_719 : decode cL_law 719 = .ok (.goto 1048, 3) := by decide +kernel
theorem dL_law_722 : decode cL_law 722 = .ok (.aload_n 1, 1) := by decide +kernel
theorem dL_law_723 : decode cL_law 723 = .ok (.aload_n 0, 1) := by decide +kernel
theorem dL_law_724 : decode cL_law 724 = .ok (.iload 4, 2) := by decide +kernel
theorem dL_law_726 : decode cL_law 726 = .ok (.iconst 1, 1) := by decide +kernel
theorem dL_law_727 : decode cL_law 727 = .ok (.iadd, 1) := by decide +kernel
theorem dL_law_728 : decode cL_law 728 = .ok (.iaload, 1) := by decide +kernel
theorem dL_law_729 : decode cL_law 729 = .ok (.aload_n 0, 1) := by decide +kernel
theorem dL_law_730 : decode cL_law 730 = .ok (.iload 4, 2) := by decide +kernel
theorem dL_law_732 : decode cL_law 732 = .ok (.iconst 2, 1) := by decide +kernel
theorem dL_law_733 : decode cL_law 733 = .ok (.iadd, 1) := by decide +kernel
theorem dL_law_734 : decode cL_law 734 = .ok (.iaload, 1) := by decide +kernel
theorem dL_law_735 : decode cL_law 735 = .ok (.aload_n 3, 1) := by decide +kernel
theorem dL_law_736 : decode cL_law 736 = .ok (.invokestatic 135, 3) := by decide +kernel
theorem dL_law_739 : decode cL_law 739 = .ok (.istore 5, 2) := by decide +kernel
theorem dL_law_741 : decode cL_law 741 = .ok (.aload_n 2, 1) := by decide +kernel
theorem dL_law_742 : decode cL_law 742 = .ok (.aload_n 0, 1) := by decide +kernel
theorem dL_law_743 : decode cL_law 743 = .ok (.iload 4, 2) := by decide +kernel
theorem dL_law_745 : decode cL_law 745 = .ok (.iconst 1, 1) := by decide +kernel
theorem dL_law_746 : decode cL_law 746 = .ok (.iadd, 1) := by decide +kernel
theorem dL_law_747 : decode cL_law 747 = .ok (.iaload, 1) := by decide +kernel
theorem dL_law_748 : decode cL_law 748 = .ok (.aload_n 0, 1) := by decide +kernel
theorem dL_law_749 : decode cL_law 749 = .ok (.iload 4, 2) := by decide +kernel
theorem dL_law_751 : decode cL_law 751 = .ok (.iconst 2, 1) := by decide +kernel
theorem dL_law_752 : decode cL_law 752 = .ok (.iadd, 1) := by decide +kernel
theorem dL_law_753 : decode cL_law 753 = .ok (.iaload, 1) := by decide +kernel
theorem dL_law_754 : decode cL_law 754 = .ok (.invokevirtual 137, 3) := by decide +kernel
theorem dL_law_757 : decode cL_law 757 = .ok (.istore 6, 2) := by decide +kernel
theorem dL_law_759 : decode cL_law 759 = .ok (.aload_n 2, 1) := by decide +kernel
theorem dL_law_760 : decode cL_law 760 = .ok (.invokevirtual 100, 3) := by decide +kernel
theorem dL_law_763 : decode cL_law 763 = .ok (.iload 5, 2) := by decide +kernel
theorem dL_law_765 : decode cL_law 765 = .ok (.if_icmp .eq 5, 3) := by decide +kernel
theorem dL_law_768 : decode cL_law 768 = .ok (.iconst 0, 1) := by decide +kernel
theorem dL_law_769 : decode cL_law 769 = .ok (.ireturn, 1) := by decide +kernel
theorem dL_law_770 : decode cL_law 770 = .ok (.iload 5, 2) := by decide +kernel
theorem dL_law_772 : decode cL_law 772 = .ok (.ifCond .ne 15, 3) := by decide +kernel
theorem dL_law_775 : decode cL_law 775 = .ok (.aload_n 3, 1) := by decide +kernel
theorem dL_law_776 : decode cL_law 776 = .ok (.iconst 0, 1) := by decide +kernel
theorem dL_law_777 : decode cL_law 777 = .ok (.laload, 1) := by decide +kernel
theorem dL_law_778 : decode cL_law 778 = .ok (.iload 6, 2) := by decide +kernel
theorem dL_law_780 : decode cL_law 780 = .ok (.i2l, 1) := by decide +kernel
theorem dL_law_781 : decode cL_law 781 = .ok (.lcmp, 1) := by decide +kernel
theorem dL_law_782 : decode cL_law 782 = .ok (.ifCond .eq 5, 3) := by decide +kernel
theorem dL_law_785 : decode cL_law 785 = .ok (.iconst 0, 1) := by decide +kernel
theorem dL_law_786 : decode cL_law 786 = .ok (.ireturn, 1) := by decide +kernel
theorem dL_law_787 : decode cL_law 787 = .ok (.goto 980, 3) := by decide +kernel
theorem dL_law_790 : decode cL_law 790 = .ok (.aload_n 1, 1) := by decide +kernel
theorem dL_law_791 : decode cL_law 791 = .ok (.aload_n 0, 1) := by decide +kernel
theorem dL_law_792 : decode cL_law 792 = .ok (.iload 4, 2) := by decide +kernel
theorem dL_law_794 : decode cL_law 794 = .ok (.iconst 1, 1) := by decide +kernel
theorem dL_law_795 : decode cL_law 795 = .ok (.iadd, 1) := by decide +kernel
theorem dL_law_796 : decode cL_law 796 = .ok (.iaload, 1) := by decide +kernel
theorem dL_law_797 : decode cL_law 797 = .ok (.aload_n 0, 1) := by decide +kernel
theorem dL_law_798 : decode cL_law 798 = .ok (.iload 4, 2) := by decide +kernel
theorem dL_law_800 : decode cL_law 800 = .ok (.iconst 2, 1) := by decide +kernel
theorem dL_law_801 : decode cL_law 801 = .ok (.iadd, 1) := by decide +kernel
theorem dL_law_802 : decode cL_law 802 = .ok (.iaload, 1) := by decide +kernel
theorem dL_law_803 : decode cL_law 803 = .ok (.aload_n 3, 1) := by decide +kernel
theorem dL_law_804 : decode cL_law 804 = .ok (.invokestatic 138, 3) := by decide +kernel
theorem dL_law_807 : decode cL_law 807 = .ok (.istore 5, 2) := by decide +kernel
theorem dL_law_809 : decode cL_law 809 = .ok (.aload_n 2, 1) := by decide +kernel
theorem dL_law_810 : decode cL_law 810 = .ok (.aload_n 0, 1) := by decide +kernel
theorem dL_law_811 : decode cL_law 811 = .ok (.iload 4, 2) := by decide +kernel
theorem dL_law_813 : decode cL_law 813 = .ok (.iconst 1, 1) := by decide +kernel
theorem dL_law_814 : decode cL_law 814 = .ok (.iadd, 1) := by decide +kernel
theorem dL_law_815 : decode cL_law 815 = .ok (.iaload, 1) := by decide +kernel
theorem dL_law_816 : decode cL_law 816 = .ok (.aload_n 0, 1) := by decide +kernel
theorem dL_law_817 : decode cL_law 817 = .ok (.iload 4, 2) := by decide +kernel
theorem dL_law_819 : decode cL_law 819 = .ok (.iconst 2, 1) := by decide +kernel
theorem dL_law_820 : decode cL_law 820 = .ok (.iadd, 1) := by decide +kernel
theorem dL_law_821 : decode cL_law 821 = .ok (.iaload, 1) := by decide +kernel
theorem dL_law_822 : decode cL_law 822 = .ok (.invokevirtual 140, 3) := by decide +kernel
theorem dL_law_825 : decode cL_law 825 = .ok (.istore 6, 2) := by decide +kernel
theorem dL_law_827 : decode cL_law 827 = .ok (.aload_n 2, 1) := by decide +kernel
theorem dL_law_828 : decode cL_law 828 = .ok (.invokevirtual 100, 3) := by decide +kernel
theorem dL_law_831 : decode cL_law 831 = .ok (.iload 5, 2) := by decide +kernel
theorem dL_law_833 : decode cL_law 833 = .ok (.if_icmp .eq 5, 3) := by decide +kernel
theorem dL_law_836 : decode cL_law 836 = .ok (.iconst 0, 1) := by decide +kernel
theorem dL_law_837 : decode cL_law 837 = .ok (.ireturn, 1) := by decide +kernel
theorem dL_law_838 : decode cL_law 838 = .ok (.iload 5, 2) := by decide +kernel
theorem dL_law_840 : decode cL_law 840 = .ok (.ifCond .ne 15, 3) := by decide +kernel
theorem dL_law_843 : decode cL_law 843 = .ok (.aload_n 3, 1) := by decide +kernel
theorem dL_law_844 : decode cL_law 844 = .ok (.iconst 0, 1) := by decide +kernel
theorem dL_law_845 : decode cL_law 845 = .ok (.laload, 1) := by decide +kernel
theorem dL_law_846 : decode cL_law 846 = .ok (.iload 6, 2) := by decide +kernel
theorem dL_law_848 : decode cL_law 848 = .ok (.i2l, 1) := by decide +kernel
theorem dL_law_849 : decode cL_law 849 = .ok (.lcmp, 1) := by decide +kernel
theorem dL_law_850 : decode cL_law 850 = .ok (.ifCond .eq 5, 3) := by decide +kernel
theorem dL_law_853 : decode cL_law 853 = .ok (.iconst 0, 1) := by decide +kernel
theorem dL_law_854 : decode cL_law 854 = .ok (.ireturn, 1) := by decide +kernel
theorem dL_law_855 : decode cL_law 855 = .ok (.goto 912, 3) := by decide +kernel
theorem dL_law_858 : decode cL_law 858 = .ok (.aload_n 1, 1) := by decide +kernel
theorem dL_law_859 : decode cL_law 859 = .ok (.aload_n 0, 1) := by decide +kernel
theorem dL_law_860 : decode cL_law 860 = .ok (.iload 4, 2) := by decide +kernel
theorem dL_law_862 : decode cL_law 862 = .ok (.iconst 1, 1) := by decide +kernel
theorem dL_law_863 : decode cL_law 863 = .ok (.iadd, 1) := by decide +kernel
theorem dL_law_864 : decode cL_law 864 = .ok (.iaload, 1) := by decide +kernel
theorem dL_law_865 : decode cL_law 865 = .ok (.aload_n 3, 1) := by decide +kernel
theorem dL_law_866 : decode cL_law 866 = .ok (.invokestatic 141, 3) := by decide +kernel
theorem dL_law_869 : decode cL_law 869 = .ok (.istore 5, 2) := by decide +kernel
theorem dL_law_871 : decode cL_law 871 = .ok (.aload_n 2, 1) := by decide +kernel
theorem dL_law_872 : decode cL_law 872 = .ok (.aload_n 0, 1) := by decide +kernel
theorem dL_law_873 : decode cL_law 873 = .ok (.iload 4, 2) := by decide +kernel
theorem dL_law_875 : decode cL_law 875 = .ok (.iconst 1, 1) := by decide +kernel
theorem dL_law_876 : decode cL_law 876 = .ok (.iadd, 1) := by decide +kernel
theorem dL_law_877 : decode cL_law 877 = .ok (.iaload, 1) := by decide +kernel
theorem dL_law_878 : decode cL_law 878 = .ok (.invokevirtual 143, 3) := by decide +kernel
theorem dL_law_881 : decode cL_law 881 = .ok (.istore 6, 2) := by decide +kernel
theorem dL_law_883 : decode cL_law 883 = .ok (.aload_n 2, 1) := by decide +kernel
theorem dL_law_884 : decode cL_law 884 = .ok (.invokevirtual 100, 3) := by decide +kernel
theorem dL_law_887 : decode cL_law 887 = .ok (.iload 5, 2) := by decide +kernel
theorem dL_law_889 : decode cL_law 889 = .ok (.if_icmp .eq 5, 3) := by decide +kernel
theorem dL_law_892 : decode cL_law 892 = .ok (.iconst 0, 1) := by decide +kernel
theorem dL_law_893 : decode cL_law 893 = .ok (.ireturn, 1) := by decide +kernel
theorem dL_law_894 : decode cL_law 894 = .ok (.iload 5, 2) := by decide +kernel
theorem dL_law_896 : decode cL_law 896 = .ok (.ifCond .ne 15, 3) := by decide +kernel
theorem dL_law_899 : decode cL_law 899 = .ok (.aload_n 3, 1) := by decide +kernel
end
section
theorem dL_law_900 : decode cL_law 900 = .ok (.iconst 0, 1) := by decide +kernel
theorem dL_law_901 : decode cL_law 901 = .ok (.laload, 1) := by decide +kernel
theorem dL_law_902 : decode cL_law 902 = .ok (.iload 6, 2) := by decide +kernel
theorem dL_law_904 : decode cL_law 904 = .ok (.i2l, 1) := by decide +kernel
theorem dL_law_905 : decode cL_law 905 = .ok (.lcmp, 1) := by decide +kernel
theorem dL_law_906 : decode cL_law 906 = .ok (.ifCond .eq 5, 3) := by decide +kernel
theorem dL_law_909 : decode cL_law 909 = .ok (.iconst 0, 1) := by decide +kernel
theorem dL_law_910 : decode cL_law 910 = .ok (.ireturn, 1) := by decide +kernel
theorem dL_law_911 : decode cL_law 911 = .ok (.goto 856, 3) := by decide +kernel
theorem dL_law_914 : decode cL_law 914 = .ok (.aload_n 1, 1) := by decide +kernel
theorem dL_law_915 : decode cL_law 915 = .ok (.aload_n 0, 1) := by decide +kernel
theorem dL_law_916 : decode cL_law 916 = .ok (.iload 4, 2) := by decide +kernel
theorem dL_law_918 : decode cL_law 918 = .ok (.iconst 1, 1) := by decide +kernel
theorem dL_law_919 : decode cL_law 919 = .ok (.iadd, 1) := by decide +kernel
theorem dL_law_920 : decode cL_law 920 = .ok (.iaload, 1) := by decide +kernel
theorem dL_law_921 : decode cL_law 921 = .ok (.aload_n 3, 1) := by decide +kernel
theorem dL_law_922 : decode cL_law 922 = .ok (.invokestatic 144, 3) := by decide +kernel
theorem dL_law_925 : decode cL_law 925 = .ok (.istore 5, 2) := by decide +kernel
theorem dL_law_927 : decode cL_law 927 = .ok (.aload_n 2, 1) := by decide +kernel
theorem dL_law_928 : decode cL_law 928 = .ok (.aload_n 0, 1) := by decide +kernel
theorem dL_law_929 : decode cL_law 929 = .ok (.iload 4, 2) := by decide +kernel
theorem dL_law_931 : decode cL_law 931 = .ok (.iconst 1, 1) := by decide +kernel
theorem dL_law_932 : decode cL_law 932 = .ok (.iadd, 1) := by decide +kernel
theorem dL_law_933 : decode cL_law 933 = .ok (.iaload, 1) := by decide +kernel
theorem dL_law_934 : decode cL_law 934 = .ok (.invokevirtual 146, 3) := by decide +kernel
theorem dL_law_937 : decode cL_law 937 = .ok (.istore 6, 2) := by decide +kernel
theorem dL_law_939 : decode cL_law 939 = .ok (.aload_n 2, 1) := by decide +kernel
theorem dL_law_940 : decode cL_law 940 = .ok (.invokevirtual 100, 3) := by decide +kernel
theorem dL_law_943 : decode cL_law 943 = .ok (.iload 5, 2) := by decide +kernel
theorem dL_law_945 : decode cL_law 945 = .ok (.if_icmp .eq 5, 3) := by decide +kernel
theorem dL_law_948 : decode cL_law 948 = .ok (.iconst 0, 1) := by decide +kernel
theorem dL_law_949 : decode cL_law 949 = .ok (.ireturn, 1) := by decide +kernel
theorem dL_law_950 : decode cL_law 950 = .ok (.iload 5, 2) := by decide +kernel
theorem dL_law_952 : decode cL_law 952 = .ok (.ifCond .ne 15, 3) := by decide +kernel
theorem dL_law_955 : decode cL_law 955 = .ok (.aload_n 3, 1) := by decide +kernel
theorem dL_law_956 : decode cL_law 956 = .ok (.iconst 0, 1) := by decide +kernel
theorem dL_law_957 : decode cL_law 957 = .ok (.laload, 1) := by decide +kernel
theorem dL_law_958 : decode cL_law 958 = .ok (.iload 6, 2) := by decide +kernel
theorem dL_law_960 : decode cL_law 960 = .ok (.i2l, 1) := by decide +kernel
theorem dL_law_961 : decode cL_law 961 = .ok (.lcmp, 1) := by decide +kernel
theorem dL_law_962 : decode cL_law 962 = .ok (.ifCond .eq 5, 3) := by decide +kernel
theorem dL_law_965 : decode cL_law 965 = .ok (.iconst 0, 1) := by decide +kernel
theorem dL_law_966 : decode cL_law 966 = .ok (.ireturn, 1) := by decide +kernel
theorem dL_law_967 : decode cL_law 967 = .ok (.goto 800, 3) := by decide +kernel
theorem dL_law_970 : decode cL_law 970 = .ok (.aload_n 1, 1) := by decide +kernel
theorem dL_law_971 : decode cL_law 971 = .ok (.aload_n 0, 1) := by decide +kernel
theorem dL_law_972 : decode cL_law 972 = .ok (.iload 4, 2) := by decide +kernel
theorem dL_law_974 : decode cL_law 974 = .ok (.iconst 1, 1) := by decide +kernel
theorem dL_law_975 : decode cL_law 975 = .ok (.iadd, 1) := by decide +kernel
theorem dL_law_976 : decode cL_law 976 = .ok (.iaload, 1) := by decide +kernel
theorem dL_law_977 : decode cL_law 977 = .ok (.aload_n 3, 1) := by decide +kernel
theorem dL_law_978 : decode cL_law 978 = .ok (.invokestatic 147, 3) := by decide +kernel
theorem dL_law_981 : decode cL_law 981 = .ok (.istore 5, 2) := by decide +kernel
theorem dL_law_983 : decode cL_law 983 = .ok (.aload_n 2, 1) := by decide +kernel
theorem dL_law_984 : decode cL_law 984 = .ok (.aload_n 0, 1) := by decide +kernel
theorem dL_law_985 : decode cL_law 985 = .ok (.iload 4, 2) := by decide +kernel
theorem dL_law_987 : decode cL_law 987 = .ok (.iconst 1, 1) := by decide +kernel
theorem dL_law_988 : decode cL_law 988 = .ok (.iadd, 1) := by decide +kernel
theorem dL_law_989 : decode cL_law 989 = .ok (.iaload, 1) := by decide +kernel
theorem dL_law_990 : decode cL_law 990 = .ok (.invokevirtual 149, 3) := by decide +kernel
theorem dL_law_993 : decode cL_law 993 = .ok (.istore 6, 2) := by decide +kernel
theorem dL_law_995 : decode cL_law 995 = .ok (.aload_n 2, 1) := by decide +kernel
theorem dL_law_996 : decode cL_law 996 = .ok (.invokevirtual 100, 3) := by decide +kernel
theorem dL_law_999 : decode cL_law 999 = .ok (.iload 5, 2) := by decide +kernel
theorem dL_law_1001 : decode cL_law 1001 = .ok (.if_icmp .eq 5, 3) := by decide +kernel
theorem dL_law_1004 : decode cL_law 1004 = .ok (.iconst 0, 1) := by decide +kernel
theorem dL_law_1005 : decode cL_law 1005 = .ok (.ireturn, 1) := by decide +kernel
theorem dL_law_1006 : decode cL_law 1006 = .ok (.iload 5, 2) := by decide +kernel
theorem dL_law_1008 : decode cL_law 1008 = .ok (.ifCond .ne 15, 3) := by decide +kernel
theorem dL_law_1011 : decode cL_law 1011 = .ok (.aload_n 3, 1) := by decide +kernel
theorem dL_law_1012 : decode cL_law 1012 = .ok (.iconst 0, 1) := by decide +kernel
theorem dL_law_1013 : decode cL_law 1013 = .ok (.laload, 1) := by decide +kernel
theorem dL_law_1014 : decode cL_law 1014 = .ok (.iload 6, 2) := by decide +kernel
theorem dL_law_1016 : decode cL_law 1016 = .ok (.i2l, 1) := by decide +kernel
theorem dL_law_1017 : decode cL_law 1017 = .ok (.lcmp, 1) := by decide +kernel
theorem dL_law_1018 : decode cL_law 1018 = .ok (.ifCond .eq 5, 3) := by decide +kernel
theorem dL_law_1021 : decode cL_law 1021 = .ok (.iconst 0, 1) := by decide +kernel
theorem dL_law_1022 : decode cL_law 1022 = .ok (.ireturn, 1) := by decide +kernel
theorem dL_law_1023 : decode cL_law 1023 = .ok (.goto 744, 3) := by decide +kernel
theorem dL_law_1026 : decode cL_law 1026 = .ok (.aload_n 1, 1) := by decide +kernel
theorem dL_law_1027 : decode cL_law 1027 = .ok (.aload_n 0, 1) := by decide +kernel
theorem dL_law_1028 : decode cL_law 1028 = .ok (.iload 4, 2) := by decide +kernel
theorem dL_law_1030 : decode cL_law 1030 = .ok (.iconst 1, 1) := by decide +kernel
theorem dL_law_1031 : decode cL_law 1031 = .ok (.iadd, 1) := by decide +kernel
theorem dL_law_1032 : decode cL_law 1032 = .ok (.iaload, 1) := by decide +kernel
theorem dL_law_1033 : decode cL_law 1033 = .ok (.aload_n 0, 1) := by decide +kernel
theorem dL_law_1034 : decode cL_law 1034 = .ok (.iload 4, 2) := by decide +kernel
theorem dL_law_1036 : decode cL_law 1036 = .ok (.iconst 2, 1) := by decide +kernel
theorem dL_law_1037 : decode cL_law 1037 = .ok (.iadd, 1) := by decide +kernel
theorem dL_law_1038 : decode cL_law 1038 = .ok (.iaload, 1) := by decide +kernel
theorem dL_law_1039 : decode cL_law 1039 = .ok (.aload_n 3, 1) := by decide +kernel
theorem dL_law_1040 : decode cL_law 1040 = .ok (.invokestatic 150, 3) := by decide +kernel
theorem dL_law_1043 : decode cL_law 1043 = .ok (.istore 5, 2) := by decide +kernel
theorem dL_law_1045 : decode cL_law 1045 = .ok (.aload_n 2, 1) := by decide +kernel
theorem dL_law_1046 : decode cL_law 1046 = .ok (.aload_n 0, 1) := by decide +kernel
theorem dL_law_1047 : decode cL_law 1047 = .ok (.iload 4, 2) := by decide +kernel
theorem dL_law_1049 : decode cL_law 1049 = .ok (.iconst 1, 1) := by decide +kernel
theorem dL_law_1050 : decode cL_law 1050 = .ok (.iadd, 1) := by decide +kernel
theorem dL_law_1051 : decode cL_law 1051 = .ok (.iaload, 1) := by decide +kernel
theorem dL_law_1052 : decode cL_law 1052 = .ok (.aload_n 0, 1) := by decide +kernel
theorem dL_law_1053 : decode cL_law 1053 = .ok (.iload 4, 2) := by decide +kernel
theorem dL_law_1055 : decode cL_law 1055 = .ok (.iconst 2, 1) := by decide +kernel
theorem dL_law_1056 : decode cL_law 1056 = .ok (.iadd, 1) := by decide +kernel
theorem dL_law_1057 : decode cL_law 1057 = .ok (.iaload, 1) := by decide +kernel
theorem dL_law_1058 : decode cL_law 1058 = .ok (.invokevirtual 152, 3) := by decide +kernel
theorem dL_law_1061 : decode cL_law 1061 = .ok (.istore 6, 2) := by decide +kernel
theorem dL_law_1063 : decode cL_law 1063 = .ok (.aload_n 2, 1) := by decide +kernel
theorem dL_law_1064 : decode cL_law 1064 = .ok (.invokevirtual 100, 3) := by decide +kernel
theorem dL_law_1067 : decode cL_law 1067 = .ok (.iload 5, 2) := by decide +kernel
theorem dL_law_1069 : decode cL_law 1069 = .ok (.if_icmp .eq 5, 3) := by decide +kernel
theorem dL_law_1072 : decode cL_law 1072 = .ok (.iconst 0, 1) := by decide +kernel
theorem dL_law_1073 : decode cL_law 1073 = .ok (.ireturn, 1) := by decide +kernel
theorem dL_law_1074 : decode cL_law 1074 = .ok (.iload 5, 2) := by decide +kernel
theorem dL_law_1076 : decode cL_law 1076 = .ok (.ifCond .ne 22, 3) := by decide +kernel
theorem dL_law_1079 : decode cL_law 1079 = .ok (.aload_n 3, 1) := by decide +kernel
theorem dL_law_1080 : decode cL_law 1080 = .ok (.iconst 0, 1) := by decide +kernel
theorem dL_law_1081 : decode cL_law 1081 = .ok (.laload, 1) := by decide +kernel
theorem dL_law_1082 : decode cL_law 1082 = .ok (.iload 6, 2) := by decide +kernel
theorem dL_law_1084 : decode cL_law 1084 = .ok (.ifCond .eq 7, 3) := by decide +kernel
theorem dL_law_1087 : decode cL_law 1087 = .ok (.lconst 1, 1) := by decide +kernel
theorem dL_law_1088 : decode cL_law 1088 = .ok (.goto 4, 3) := by decide +kernel
theorem dL_law_1091 : decode cL_law 1091 = .ok (.lconst 0, 1) := by decide +kernel
theorem dL_law_1092 : decode cL_law 1092 = .ok (.lcmp, 1) := by decide +kernel
theorem dL_law_1093 : decode cL_law 1093 = .ok (.ifCond .eq 5, 3) := by decide +kernel
theorem dL_law_1096 : decode cL_law 1096 = .ok (.iconst 0, 1) := by decide +kernel
theorem dL_law_1097 : decode cL_law 1097 = .ok (.ireturn, 1) := by decide +kernel
theorem dL_law_1098 : decode cL_law 1098 = .ok (.goto 669, 3) := by decide +kernel
theorem dL_law_1101 : decode cL_law 1101 = .ok (.aload_n 1, 1) := by decide +kernel
theorem dL_law_1102 : decode cL_law 1102 = .ok (.aload_n 0, 1) := by decide +kernel
theorem dL_law_1103 : decode cL_law 1103 = .ok (.iload 4, 2) := by decide +kernel
theorem dL_law_1105 : decode cL_law 1105 = .ok (.iconst 1, 1) := by decide +kernel
theorem dL_law_1106 : decode cL_law 1106 = .ok (.iadd, 1) := by decide +kernel
theorem dL_law_1107 : decode cL_law 1107 = .ok (.iaload, 1) := by decide +kernel
theorem dL_law_1108 : decode cL_law 1108 = .ok (.aload_n 3, 1) := by decide +kernel
theorem dL_law_1109 : decode cL_law 1109 = .ok (.invokestatic 153, 3) := by decide +kernel
theorem dL_law_1112 : decode cL_law 1112 = .ok (.istore 5, 2) := by decide +kernel
theorem dL_law_1114 : decode cL_law 1114 = .ok (.aload_n 2, 1) := by decide +kernel
theorem dL_law_1115 : decode cL_law 1115 = .ok (.aload_n 0, 1) := by decide +kernel
theorem dL_law_1116 : decode cL_law 1116 = .ok (.iload 4, 2) := by decide +kernel
theorem dL_law_1118 : decode cL_law 1118 = .ok (.iconst 1, 1) := by decide +kernel
theorem dL_law_1119 : decode cL_law 1119 = .ok (.iadd, 1) := by decide +kernel
theorem dL_law_1120 : decode cL_law 1120 = .ok (.iaload, 1) := by decide +kernel
theorem dL_law_1121 : decode cL_law 1121 = .ok (.invokevirtual 155, 3) := by decide +kernel
theorem dL_law_1124 : decode cL_law 1124 = .ok (.istore 6, 2) := by decide +kernel
theorem dL_law_1126 : decode cL_law 1126 = .ok (.aload_n 2, 1) := by decide +kernel
theorem dL_law_1127 : decode cL_law 1127 = .ok (.invokevirtual 100, 3) := by decide +kernel
theorem dL_law_1130 : decode cL_law 1130 = .ok (.iload 5, 2) := by decide +kernel
theorem dL_law_1132 : decode cL_law 1132 = .ok (.if_icmp .eq 5, 3) := by decide +kernel
theorem dL_law_1135 : decode cL_law 1135 = .ok (.iconst 0, 1) := by decide +kernel
theorem dL_law_1136 : decode cL_law 1136 = .ok (.ireturn, 1) := by decide +kernel
theorem dL_law_1137 : decode cL_law 1137 = .ok (.iload 5, 2) := by decide +kernel
theorem dL_law_1139 : decode cL_law 1139 = .ok (.ifCond .ne 15, 3) := by decide +kernel
theorem dL_law_1142 : decode cL_law 1142 = .ok (.aload_n 3, 1) := by decide +kernel
theorem dL_law_1143 : decode cL_law 1143 = .ok (.iconst 0, 1) := by decide +kernel
theorem dL_law_1144 : decode cL_law 1144 = .ok (.laload, 1) := by decide +kernel
theorem dL_law_1145 : decode cL_law 1145 = .ok (.iload 6, 2) := by decide +kernel
theorem dL_law_1147 : decode cL_law 1147 = .ok (.i2l, 1) := by decide +kernel
theorem dL_law_1148 : decode cL_law 1148 = .ok (.lcmp, 1) := by decide +kernel
theorem dL_law_1149 : decode cL_law 1149 = .ok (.ifCond .eq 5, 3) := by decide +kernel
theorem dL_law_1152 : decode cL_law 1152 = .ok (.iconst 0, 1) := by decide +kernel
theorem dL_law_1153 : decode cL_law 1153 = .ok (.ireturn, 1) := by decide +kernel
theorem dL_law_1154 : decode cL_law 1154 = .ok (.goto 613, 3) := by decide +kernel
theorem dL_law_1157 : decode cL_law 1157 = .ok (.aload_n 1, 1) := by decide +kernel
theorem dL_law_1158 : decode cL_law 1158 = .ok (.invokevirtual 156, 3) := by decide +kernel
theorem dL_law_1161 : decode cL_law 1161 = .ok (.aload_n 2, 1) := by decide +kernel
theorem dL_law_1162 : decode cL_law 1162 = .ok (.invokevirtual 159, 3) := by decide +kernel
theorem dL_law_1165 : decode cL_law 1165 = .ok (.if_icmp .eq 602, 3) := by decide +kernel
theorem dL_law_1168 : decode cL_law 1168 = .ok (.iconst 0, 1) := by decide +kernel
theorem dL_law_1169 : decode cL_law 1169 = .ok (.ireturn, 1) := by decide +kernel
theorem dL_law_1170 : decode cL_law 1170 = .ok (.aload_n 1, 1) := by decide +kernel
theorem dL_law_1171 : decode cL_law 1171 = .ok (.invokevirtual 160, 3) := by decide +kernel
theorem dL_law_1174 : decode cL_law 1174 = .ok (.aload_n 2, 1) := by decide +kernel
theorem dL_law_1175 : decode cL_law 1175 = .ok (.invokevirtual 163, 3) := by decide +kernel
theorem dL_law_1178 : decode cL_law 1178 = .ok (.if_icmp .eq 589, 3) := by decide +kernel
theorem dL_law_1181 : decode cL_law 1181 = .ok (.iconst 0, 1) := by decide +kernel
theorem dL_law_1182 : decode cL_law 1182 = .ok (.ireturn, 1) := by decide +kernel
theorem dL_law_1183 : decode cL_law 1183 = .ok (.aload_n 1, 1) := by decide +kernel
theorem dL_law_1184 : decode cL_law 1184 = .ok (.aload_n 0, 1) := by decide +kernel
theorem dL_law_1185 : decode cL_law 1185 = .ok (.iload 4, 2) := by decide +kernel
theorem dL_law_1187 : decode cL_law 1187 = .ok (.iconst 1, 1) := by decide +kernel
theorem dL_law_1188 : decode cL_law 1188 = .ok (.iadd, 1) := by decide +kernel
theorem dL_law_1189 : decode cL_law 1189 = .ok (.iaload, 1) := by decide +kernel
theorem dL_law_1190 : decode cL_law 1190 = .ok (.aload_n 3, 1) := by decide +kernel
theorem dL_law_1191 : decode cL_law 1191 = .ok (.invokestatic 164, 3) := by decide +kernel
theorem dL_law_1194 : decode cL_law 1194 = .ok (.istore 5, 2) := by decide +kernel
theorem dL_law_1196 : decode cL_law 1196 = .ok (.aload_n 2, 1) := by decide +kernel
theorem dL_law_1197 : decode cL_law 1197 = .ok (.aload_n 0, 1) := by decide +kernel
theorem dL_law_1198 : decode cL_law 1198 = .ok (.iload 4, 2) := by decide +kernel
theorem dL_law_1200 : decode cL_law 1200 = .ok (.iconst 1, 1) := by decide +kernel
theorem dL_law_1201 : decode cL_law 1201 = .ok (.iadd, 1) := by decide +kernel
theorem dL_law_1202 : decode cL_law 1202 = .ok (.iaload, 1) := by decide +kernel
theorem dL_law_1203 : decode cL_law 1203 = .ok (.invokevirtual 166, 3) := by decide +kernel
theorem dL_law_1206 : decode cL_law 1206 = .ok (.istore 6, 2) := by decide +kernel
theorem dL_law_1208 : decode cL_law 1208 = .ok (.aload_n 2, 1) := by decide +kernel
theorem dL_law_1209 : decode cL_law 1209 = .ok (.invokevirtual 100, 3) := by decide +kernel
theorem dL_law_1212 : decode cL_law 1212 = .ok (.iload 5, 2) := by decide +kernel
theorem dL_law_1214 : decode cL_law 1214 = .ok (.if_icmp .eq 5, 3) := by decide +kernel
theorem dL_law_1217 : decode cL_law 1217 = .ok (.iconst 0, 1) := by decide +kernel
theorem dL_law_1218 : decode cL_law 1218 = .ok (.ireturn, 1) := by decide +kernel
theorem dL_law_1219 : decode cL_law 1219 = .ok (.iload 5, 2) := by decide +kernel
theorem dL_law_1221 : decode cL_law 1221 = .ok (.ifCond .ne 15, 3) := by decide +kernel
theorem dL_law_1224 : decode cL_law 1224 = .ok (.aload_n 3, 1) := by decide +kernel
theorem dL_law_1225 : decode cL_law 1225 = .ok (.iconst 0, 1) := by decide +kernel
theorem dL_law_1226 : decode cL_law 1226 = .ok (.laload, 1) := by decide +kernel
theorem dL_law_1227 : decode cL_law 1227 = .ok (.iload 6, 2) := by decide +kernel
theorem dL_law_1229 : decode cL_law 1229 = .ok (.i2l, 1) := by decide +kernel
theorem dL_law_1230 : decode cL_law 1230 = .ok (.lcmp, 1) := by decide +kernel
theorem dL_law_1231 : decode cL_law 1231 = .ok (.ifCond .eq 5, 3) := by decide +kernel
theorem dL_law_1234 : decode cL_law 1234 = .ok (.iconst 0, 1) := by decide +kernel
theorem dL_law_1235 : decode cL_law 1235 = .ok (.ireturn, 1) := by decide +kernel
theorem dL_law_1236 : decode cL_law 1236 = .ok (.goto 531, 3) := by decide +kernel
theorem dL_law_1239 : decode cL_law 1239 = .ok (.aload_n 1, 1) := by decide +kernel
theorem dL_law_1240 : decode cL_law 1240 = .ok (.invokevirtual 167, 3) := by decide +kernel
theorem dL_law_1243 : decode cL_law 1243 = .ok (.aload_n 2, 1) := by decide +kernel
theorem dL_law_1244 : decode cL_law 1244 = .ok (.invokevirtual 170, 3) := by decide +kernel
theorem dL_law_1247 : decode cL_law 1247 = .ok (.if_icmp .eq 520, 3) := by decide +kernel
theorem dL_law_1250 : decode cL_law 1250 = .ok (.iconst 0, 1) := by decide +kernel
theorem dL_law_1251 : decode cL_law 1251 = .ok (.ireturn, 1) := by decide +kernel
theorem dL_law_1252 : decode cL_law 1252 = .ok (.aload_n 1, 1) := by decide +kernel
theorem dL_law_1253 : decode cL_law 1253 = .ok (.aload_n 0, 1) := by decide +kernel
theorem dL_law_1254 : decode cL_law 1254 = .ok (.iload 4, 2) := by decide +kernel
theorem dL_law_1256 : decode cL_law 1256 = .ok (.iconst 1, 1) := by decide +kernel
theorem dL_law_1257 : decode cL_law 1257 = .ok (.iadd, 1) := by decide +kernel
theorem dL_law_1258 : decode cL_law 1258 = .ok (.iaload, 1) := by decide +kernel
theorem dL_law_1259 : decode cL_law 1259 = .ok (.aload_n 0, 1) := by decide +kernel
theorem dL_law_1260 : decode cL_law 1260 = .ok (.iload 4, 2) := by decide +kernel
theorem dL_law_1262 : decode cL_law 1262 = .ok (.iconst 2, 1) := by decide +kernel
theorem dL_law_1263 : decode cL_law 1263 = .ok (.iadd, 1) := by decide +kernel
theorem dL_law_1264 : decode cL_law 1264 = .ok (.iaload, 1) := by decide +kernel
theorem dL_law_1265 : decode cL_law 1265 = .ok (.aload_n 3, 1) := by decide +kernel
theorem dL_law_1266 : decode cL_law 1266 = .ok (.invokestatic 171, 3) := by decide +kernel
theorem dL_law_1269 : decode cL_law 1269 = .ok (.istore 5, 2) := by decide +kernel
theorem dL_law_1271 : decode cL_law 1271 = .ok (.aload_n 2, 1) := by decide +kernel
theorem dL_law_1272 : decode cL_law 1272 = .ok (.aload_n 0, 1) := by decide +kernel
theorem dL_law_1273 : decode cL_law 1273 = .ok (.iload 4, 2) := by decide +kernel
theorem dL_law_1275 : decode cL_law 1275 = .ok (.iconst 1, 1) := by decide +kernel
theorem dL_law_1276 : decode cL_law 1276 = .ok (.iadd, 1) := by decide +kernel
theorem dL_law_1277 : decode cL_law 1277 = .ok (.iaload, 1) := by decide +kernel
theorem dL_law_1278 : decode cL_law 1278 = .ok (.aload_n 0, 1) := by decide +kernel
theorem dL_law_1279 : decode cL_law 1279 = .ok (.iload 4, 2) := by decide +kernel
theorem dL_law_1281 : decode cL_law 1281 = .ok (.iconst 2, 1) := by decide +kernel
theorem dL_law_1282 : decode cL_law 1282 = .ok (.iadd, 1) := by decide +kernel
theorem dL_law_1283 : decode cL_law 1283 = .ok (.iaload, 1) := by decide +kernel
theorem dL_law_1284 : decode cL_law 1284 = .ok (.invokevirtual 173, 3) := by decide +kernel
theorem dL_law_1287 : decode cL_law 1287 = .ok (.istore 6, 2) := by decide +kernel
theorem dL_law_1289 : decode cL_law 1289 = .ok (.aload_n 2, 1) := by decide +kernel
theorem dL_law_1290 : decode cL_law 1290 = .ok (.invokevirtual 100, 3) := by decide +kernel
theorem dL_law_1293 : decode cL_law 1293 = .ok (.iload 5, 2) := by decide +kernel
theorem dL_law_1295 : decode cL_law 1295 = .ok (.if_icmp .eq 5, 3) := by decide +kernel
theorem dL_law_1298 : decode cL_law 1298 = .ok (.iconst 0, 1) := by decide +kernel
theorem dL_law_1299 : decode cL_law 1299 = .ok (.ireturn, 1) := by decide +kernel
theorem dL_law_1300 : decode cL_law 1300 = .ok (.iload 5, 2) := by decide +kernel
theorem dL_law_1302 : decode cL_law 1302 = .ok (.ifCond .ne 15, 3) := by decide +kernel
theorem dL_law_1305 : decode cL_law 1305 = .ok (.aload_n 3, 1) := by decide +kernel
theorem dL_law_1306 : decode cL_law 1306 = .ok (.iconst 0, 1) := by decide +kernel
theorem dL_law_1307 : decode cL_law 1307 = .ok (.laload, 1) := by decide +kernel
theorem dL_law_1308 : decode cL_law 1308 = .ok (.iload 6, 2) := by decide +kernel
theorem dL_law_1310 : decode cL_law 1310 = .ok (.i2l, 1) := by decide +kernel
theorem dL_law_1311 : decode cL_law 1311 = .ok (.lcmp, 1) := by decide +kernel
theorem dL_law_1312 : decode cL_law 1312 = .ok (.ifCond .eq 5, 3) := by decide +kernel
theorem dL_law_1315 : decode cL_law 1315 = .ok (.iconst 0, 1) := by decide +kernel
theorem dL_law_1316 : decode cL_law 1316 = .ok (.ireturn, 1) := by decide +kernel
theorem dL_law_1317 : decode cL_law 1317 = .ok (.goto 450, 3) := by decide +kernel
theorem dL_law_1320 : decode cL_law 1320 = .ok (.aload_n 1, 1) := by decide +kernel
theorem dL_law_1321 : decode cL_law 1321 = .ok (.aload_n 0, 1) := by decide +kernel
theorem dL_law_1322 : decode cL_law 1322 = .ok (.iload 4, 2) := by decide +kernel
theorem dL_law_1324 : decode cL_law 1324 = .ok (.iconst 1, 1) := by decide +kernel
theorem dL_law_1325 : decode cL_law 1325 = .ok (.iadd, 1) := by decide +kernel
theorem dL_law_1326 : decode cL_law 1326 = .ok (.iaload, 1) := by decide +kernel
theorem dL_law_1327 : decode cL_law 1327 = .ok (.aload_n 3, 1) := by decide +kernel
theorem dL_law_1328 : decode cL_law 1328 = .ok (.invokestatic 174, 3) := by decide +kernel
theorem dL_law_1331 : decode cL_law 1331 = .ok (.istore 5, 2) := by decide +kernel
theorem dL_law_1333 : decode cL_law 1333 = .ok (.aload_n 2, 1) := by decide +kernel
theorem dL_law_1334 : decode cL_law 1334 = .ok (.aload_n 0, 1) := by decide +kernel
theorem dL_law_1335 : decode cL_law 1335 = .ok (.iload 4, 2) := by decide +kernel
theorem dL_law_1337 : decode cL_law 1337 = .ok (.iconst 1, 1) := by decide +kernel
theorem dL_law_1338 : decode cL_law 1338 = .ok (.iadd, 1) := by decide +kernel
theorem dL_law_1339 : decode cL_law 1339 = .ok (.iaload, 1) := by decide +kernel
theorem dL_law_1340 : decode cL_law 1340 = .ok (.invokevirtual 176, 3) := by decide +kernel
theorem dL_law_1343 : decode cL_law 1343 = .ok (.istore 6, 2) := by decide +kernel
theorem dL_law_1345 : decode cL_law 1345 = .ok (.aload_n 2, 1) := by decide +kernel
theorem dL_law_1346 : decode cL_law 1346 = .ok (.invokevirtual 100, 3) := by decide +kernel
theorem dL_law_1349 : decode cL_law 1349 = .ok (.iload 5, 2) := by decide +kernel
theorem dL_law_1351 : decode cL_law 1351 = .ok (.if_icmp .eq 5, 3) := by decide +kernel
theorem dL_law_1354 : decode cL_law 1354 = .ok (.iconst 0, 1) := by decide +kernel
theorem dL_law_1355 : decode cL_law 1355 = .ok (.ireturn, 1) := by decide +kernel
theorem dL_law_1356 : decode cL_law 1356 = .ok (.iload 5, 2) := by decide +kernel
theorem dL_law_1358 : decode cL_law 1358 = .ok (.ifCond .ne 15, 3) := by decide +kernel
theorem dL_law_1361 : decode cL_law 1361 = .ok (.aload_n 3, 1) := by decide +kernel
theorem dL_law_1362 : decode cL_law 1362 = .ok (.iconst 0, 1) := by decide +kernel
theorem dL_law_1363 : decode cL_law 1363 = .ok (.laload, 1) := by decide +kernel
theorem dL_law_1364 : decode cL_law 1364 = .ok (.iload 6, 2) := by decide +kernel
theorem dL_law_1366 : decode cL_law 1366 = .ok (.i2l, 1) := by decide +kernel
theorem dL_law_1367 : decode cL_law 1367 = .ok (.lcmp, 1) := by decide +kernel
theorem dL_law_1368 : decode cL_law 1368 = .ok (.ifCond .eq 5, 3) := by decide +kernel
theorem dL_law_1371 : decode cL_law 1371 = .ok (.iconst 0, 1) := by decide +kernel
theorem dL_law_1372 : decode cL_law 1372 = .ok (.ireturn, 1) := by decide +kernel
theorem dL_law_1373 : decode cL_law 1373 = .ok (.goto 394, 3) := by decide +kernel
theorem dL_law_1376 : decode cL_law 1376 = .ok (.aload_n 1, 1) := by decide +kernel
theorem dL_law_1377 : decode cL_law 1377 = .ok (.aload_n 0, 1) := by decide +kernel
theorem dL_law_1378 : decode cL_law 1378 = .ok (.iload 4, 2) := by decide +kernel
theorem dL_law_1380 : decode cL_law 1380 = .ok (.iconst 1, 1) := by decide +kernel
theorem dL_law_1381 : decode cL_law 1381 = .ok (.iadd, 1) := by decide +kernel
theorem dL_law_1382 : decode cL_law 1382 = .ok (.iaload, 1) := by decide +kernel
theorem dL_law_1383 : decode cL_law 1383 = .ok (.aload_n 3, 1) := by decide +kernel
theorem dL_law_1384 : decode cL_law 1384 = .ok (.invokestatic 177, 3) := by decide +kernel
theorem dL_law_1387 : decode cL_law 1387 = .ok (.istore 5, 2) := by decide +kernel
theorem dL_law_1389 : decode cL_law 1389 = .ok (.aload_n 2, 1) := by decide +kernel
theorem dL_law_1390 : decode cL_law 1390 = .ok (.aload_n 0, 1) := by decide +kernel
theorem dL_law_1391 : decode cL_law 1391 = .ok (.iload 4, 2) := by decide +kernel
theorem dL_law_1393 : decode cL_law 1393 = .ok (.iconst 1, 1) := by decide +kernel
theorem dL_law_1394 : decode cL_law 1394 = .ok (.iadd, 1) := by decide +kernel
theorem dL_law_1395 : decode cL_law 1395 = .ok (.iaload, 1) := by decide +kernel
theorem dL_law_1396 : decode cL_law 1396 = .ok (.invokevirtual 179, 3) := by decide +kernel
theorem dL_law_1399 : decode cL_law 1399 = .ok (.istore 6, 2) := by decide +kernel
theorem dL_law_1401 : decode cL_law 1401 = .ok (.aload_n 2, 1) := by decide +kernel
theorem dL_law_1402 : decode cL_law 1402 = .ok (.invokevirtual 100, 3) := by decide +kernel
theorem dL_law_1405 : decode cL_law 1405 = .ok (.iload 5, 2) := by decide +kernel
theorem dL_law_1407 : decode cL_law 1407 = .ok (.if_icmp .eq 5, 3) := by decide +kernel
theorem dL_law_1410 : decode cL_law 1410 = .ok (.iconst 0, 1) := by decide +kernel
theorem dL_law_1411 : decode cL_law 1411 = .ok (.ireturn, 1) := by decide +kernel
theorem dL_law_1412 : decode cL_law 1412 = .ok (.iload 5, 2) := by decide +kernel
theorem dL_law_1414 : decode cL_law 1414 = .ok (.ifCond .ne 22, 3) := by decide +kernel
theorem dL_law_1417 : decode cL_law 1417 = .ok (.aload_n 3, 1) := by decide +kernel
theorem dL_law_1418 : decode cL_law 1418 = .ok (.iconst 0, 1) := by decide +kernel
theorem dL_law_1419 : decode cL_law 1419 = .ok (.laload, 1) := by decide +kernel
theorem dL_law_1420 : decode cL_law 1420 = .ok (.iload 6, 2) := by decide +kernel
theorem dL_law_1422 : decode cL_law 1422 = .ok (.ifCond .eq 7, 3) := by decide +kernel
theorem dL_law_1425 : decode cL_law 1425 = .ok (.lconst 1, 1) := by decide +kernel
theorem dL_law_1426 : decode cL_law 1426 = .ok (.goto 4, 3) := by decide +kernel
theorem dL_law_1429 : decode cL_law 1429 = .ok (.lconst 0, 1) := by decide +kernel
theorem dL_law_1430 : decode cL_law 1430 = .ok (.lcmp, 1) := by decide +kernel
theorem dL_law_1431 : decode cL_law 1431 = .ok (.ifCond .eq 5, 3) := by decide +kernel
theorem dL_law_1434 : decode cL_law 1434 = .ok (.iconst 0, 1) := by decide +kernel
theorem dL_law_1435 : decode cL_law 1435 = .ok (.ireturn, 1) := by decide +kernel
theorem dL_law_1436 : decode cL_law 1436 = .ok (.goto 331, 3) := by decide +kernel
theorem dL_law_1439 : decode cL_law 1439 = .ok (.aload_n 1, 1) := by decide +kernel
theorem dL_law_1440 : decode cL_law 1440 = .ok (.invokevirtual 180, 3) := by decide +kernel
theorem dL_law_1443 : decode cL_law 1443 = .ok (.aload_n 2, 1) := by decide +kernel
theorem dL_law_1444 : decode cL_law 1444 = .ok (.invokevirtual 183, 3) := by decide +kernel
theorem dL_law_1447 : decode cL_law 1447 = .ok (.if_icmp .eq 320, 3) := by decide +kernel
theorem dL_law_1450 : decode cL_law 1450 = .ok (.iconst 0, 1) := by decide +kernel
theorem dL_law_1451 : decode cL_law 1451 = .ok (.ireturn, 1) := by decide +kernel
theorem dL_law_1452 : decode cL_law 1452 = .ok (.aload_n 1, 1) := by decide +kernel
theorem dL_law_1453 : decode cL_law 1453 = .ok (.aload_n 0, 1) := by decide +kernel
theorem dL_law_1454 : decode cL_law 1454 = .ok (.iload 4, 2) := by decide +kernel
theorem dL_law_1456 : decode cL_law 1456 = .ok (.iconst 1, 1) := by decide +kernel
theorem dL_law_1457 : decode cL_law 1457 = .ok (.iadd, 1) := by decide +kernel
theorem dL_law_1458 : decode cL_law 1458 = .ok (.iaload, 1) := by decide +kernel
theorem dL_law_1459 : decode cL_law 1459 = .ok (.aload_n 0, 1) := by decide +kernel
theorem dL_law_1460 : decode cL_law 1460 = .ok (.iload 4, 2) := by decide +kernel
theorem dL_law_1462 : decode cL_law 1462 = .ok (.iconst 2, 1) := by decide +kernel
theorem dL_law_1463 : decode cL_law 1463 = .ok (.iadd, 1) := by decide +kernel
theorem dL_law_1464 : decode cL_law 1464 = .ok (.iaload, 1) := by decide +kernel
theorem dL_law_1465 : decode cL_law 1465 = .ok (.aload_n 3, 1) := by decide +kernel
theorem dL_law_1466 : decode cL_law 1466 = .ok (.invokestatic 184, 3) := by decide +kernel
theorem dL_law_1469 : decode cL_law 1469 = .ok (.istore 5, 2) := by decide +kernel
theorem dL_law_1471 : decode cL_law 1471 = .ok (.aload_n 2, 1) := by decide +kernel
theorem dL_law_1472 : decode cL_law 1472 = .ok (.aload_n 0, 1) := by decide +kernel
theorem dL_law_1473 : decode cL_law 1473 = .ok (.iload 4, 2) := by decide +kernel
theorem dL_law_1475 : decode cL_law 1475 = .ok (.iconst 1, 1) := by decide +kernel
theorem dL_law_1476 : decode cL_law 1476 = .ok (.iadd, 1) := by decide +kernel
theorem dL_law_1477 : decode cL_law 1477 = .ok (.iaload, 1) := by decide +kernel
theorem dL_law_1478 : decode cL_law 1478 = .ok (.aload_n 0, 1) := by decide +kernel
theorem dL_law_1479 : decode cL_law 1479 = .ok (.iload 4, 2) := by decide +kernel
theorem dL_law_1481 : decode cL_law 1481 = .ok (.iconst 2, 1) := by decide +kernel
theorem dL_law_1482 : decode cL_law 1482 = .ok (.iadd, 1) := by decide +kernel
theorem dL_law_1483 : decode cL_law 1483 = .ok (.iaload, 1) := by decide +kernel
theorem dL_law_1484 : decode cL_law 1484 = .ok (.invokevirtual 186, 3) := by decide +kernel
theorem dL_law_1487 : decode cL_law 1487 = .ok (.istore 6, 2) := by decide +kernel
theorem dL_law_1489 : decode cL_law 1489 = .ok (.aload_n 2, 1) := by decide +kernel
theorem dL_law_1490 : decode cL_law 1490 = .ok (.invokevirtual 100, 3) := by decide +kernel
theorem dL_law_1493 : decode cL_law 1493 = .ok (.iload 5, 2) := by decide +kernel
theorem dL_law_1495 : decode cL_law 1495 = .ok (.if_icmp .eq 5, 3) := by decide +kernel
theorem dL_law_1498 : decode cL_law 1498 = .ok (.iconst 0, 1) := by decide +kernel
theorem dL_law_1499 : decode cL_law 1499 = .ok (.ireturn, 1) := by decide +kernel
theorem dL_law_1500 : decode cL_law 1500 = .ok (.iload 5, 2) := by decide +kernel
theorem dL_law_1502 : decode cL_law 1502 = .ok (.ifCond .ne 15, 3) := by decide +kernel
theorem dL_law_1505 : decode cL_law 1505 = .ok (.aload_n 3, 1) := by decide +kernel
theorem dL_law_1506 : decode cL_law 1506 = .ok (.iconst 0, 1) := by decide +kernel
theorem dL_law_1507 : decode cL_law 1507 = .ok (.laload, 1) := by decide +kernel
theorem dL_law_1508 : decode cL_law 1508 = .ok (.iload 6, 2) := by decide +kernel
theorem dL_law_1510 : decode cL_law 1510 = .ok (.i2l, 1) := by decide +kernel
theorem dL_law_1511 : decode cL_law 1511 = .ok (.lcmp, 1) := by decide +kernel
theorem dL_law_1512 : decode cL_law 1512 = .ok (.ifCond .eq 5, 3) := by decide +kernel
theorem dL_law_1515 : decode cL_law 1515 = .ok (.iconst 0, 1) := by decide +kernel
theorem dL_law_1516 : decode cL_law 1516 = .ok (.ireturn, 1) := by decide +kernel
theorem dL_law_1517 : decode cL_law 1517 = .ok (.goto 250, 3) := by decide +kernel
theorem dL_law_1520 : decode cL_law 1520 = .ok (.aload_n 1, 1) := by decide +kernel
theorem dL_law_1521 : decode cL_law 1521 = .ok (.aload_n 0, 1) := by decide +kernel
theorem dL_law_1522 : decode cL_law 1522 = .ok (.iload 4, 2) := by decide +kernel
theorem dL_law_1524 : decode cL_law 1524 = .ok (.iconst 1, 1) := by decide +kernel
theorem dL_law_1525 : decode cL_law 1525 = .ok (.iadd, 1) := by decide +kernel
theorem dL_law_1526 : decode cL_law 1526 = .ok (.iaload, 1) := by decide +kernel
theorem dL_law_1527 : decode cL_law 1527 = .ok (.aload_n 0, 1) := by decide +kernel
theorem dL_law_1528 : decode cL_law 1528 = .ok (.iload 4, 2) := by decide +kernel
theorem dL_law_1530 : decode cL_law 1530 = .ok (.iconst 2, 1) := by decide +kernel
theorem dL_law_1531 : decode cL_law 1531 = .ok (.iadd, 1) := by decide +kernel
theorem dL_law_1532 : decode cL_law 1532 = .ok (.iaload, 1) := by decide +kernel
theorem dL_law_1533 : decode cL_law 1533 = .ok (.aload_n 3, 1) := by decide +kernel
theorem dL_law_1534 : decode cL_law 1534 = .ok (.invokestatic 187, 3) := by decide +kernel
theorem dL_law_1537 : decode cL_law 1537 = .ok (.istore 5, 2) := by decide +kernel
theorem dL_law_1539 : decode cL_law 1539 = .ok (.aload_n 2, 1) := by decide +kernel
theorem dL_law_1540 : decode cL_law 1540 = .ok (.aload_n 0, 1) := by decide +kernel
theorem dL_law_1541 : decode cL_law 1541 = .ok (.iload 4, 2) := by decide +kernel
theorem dL_law_1543 : decode cL_law 1543 = .ok (.iconst 1, 1) := by decide +kernel
theorem dL_law_1544 : decode cL_law 1544 = .ok (.iadd, 1) := by decide +kernel
theorem dL_law_1545 : decode cL_law 1545 = .ok (.iaload, 1) := by decide +kernel
theorem dL_law_1546 : decode cL_law 1546 = .ok (.aload_n 0, 1) := by decide +kernel
theorem dL_law_1547 : decode cL_law 1547 = .ok (.iload 4, 2) := by decide +kernel
theorem dL_law_1549 : decode cL_law 1549 = .ok (.iconst 2, 1) := by decide +kernel
theorem dL_law_1550 : decode cL_law 1550 = .ok (.iadd, 1) := by decide +kernel
theorem dL_law_1551 : decode cL_law 1551 = .ok (.iaload, 1) := by decide +kernel
theorem dL_law_1552 : decode cL_law 1552 = .ok (.invokevirtual 189, 3) := by decide +kernel
theorem dL_law_1555 : decode cL_law 1555 = .ok (.istore 6, 2) := by decide +kernel
theorem dL_law_1557 : decode cL_law 1557 = .ok (.aload_n 2, 1) := by decide +kernel
theorem dL_law_1558 : decode cL_law 1558 = .ok (.invokevirtual 100, 3) := by decide +kernel
theorem dL_law_1561 : decode cL_law 1561 = .ok (.iload 5, 2) := by decide +kernel
theorem dL_law_1563 : decode cL_law 1563 = .ok (.if_icmp .eq 5, 3) := by decide +kernel
theorem dL_law_1566 : decode cL_law 1566 = .ok (.iconst 0, 1) := by decide +kernel
theorem dL_law_1567 : decode cL_law 1567 = .ok (.ireturn, 1) := by decide +kernel
theorem dL_law_1568 : decode cL_law 1568 = .ok (.iload 5, 2) := by decide +kernel
theorem dL_law_1570 : decode cL_law 1570 = .ok (.ifCond .ne 15, 3) := by decide +kernel
theorem dL_law_1573 : decode cL_law 1573 = .ok (.aload_n 3, 1) := by decide +kernel
theorem dL_law_1574 : decode cL_law 1574 = .ok (.iconst 0, 1) := by decide +kernel
theorem dL_law_1575 : decode cL_law 1575 = .ok (.laload, 1) := by decide +kernel
theorem dL_law_1576 : decode cL_law 1576 = .ok (.iload 6, 2) := by decide +kernel
theorem dL_law_1578 : decode cL_law 1578 = .ok (.i2l, 1) := by decide +kernel
theorem dL_law_1579 : decode cL_law 1579 = .ok (.lcmp, 1) := by decide +kernel
theorem dL_law_1580 : decode cL_law 1580 = .ok (.ifCond .eq 5, 3) := by decide +kernel
theorem dL_law_1583 : decode cL_law 1583 = .ok (.iconst 0, 1) := by decide +kernel
theorem dL_law_1584 : decode cL_law 1584 = .ok (.ireturn, 1) := by decide +kernel
theorem dL_law_1585 : decode cL_law 1585 = .ok (.goto 182, 3) := by decide +kernel
theorem dL_law_1588 : decode cL_law 1588 = .ok (.aload_n 1, 1) := by decide +kernel
theorem dL_law_1589 : decode cL_law 1589 = .ok (.aload_n 0, 1) := by decide +kernel
theorem dL_law_1590 : decode cL_law 1590 = .ok (.iload 4, 2) := by decide +kernel
theorem dL_law_1592 : decode cL_law 1592 = .ok (.iconst 1, 1) := by decide +kernel
theorem dL_law_1593 : decode cL_law 1593 = .ok (.iadd, 1) := by decide +kernel
theorem dL_law_1594 : decode cL_law 1594 = .ok (.iaload, 1) := by decide +kernel
theorem dL_law_1595 : decode cL_law 1595 = .ok (.aload_n 3, 1) := by decide +kernel
theorem dL_law_1596 : decode cL_law 1596 = .ok (.invokestatic 190, 3) := by decide +kernel
theorem dL_law_1599 : decode cL_law 1599 = .ok (.istore 5, 2) := by decide +kernel
theorem dL_law_1601 : decode cL_law 1601 = .ok (.aload_n 2, 1) := by decide +kernel
theorem dL_law_1602 : decode cL_law 1602 = .ok (.aload_n 0, 1) := by decide +kernel
theorem dL_law_1603 : decode cL_law 1603 = .ok (.iload 4, 2) := by decide +kernel
theorem dL_law_1605 : decode cL_law 1605 = .ok (.iconst 1, 1) := by decide +kernel
theorem dL_law_1606 : decode cL_law 1606 = .ok (.iadd, 1) := by decide +kernel
theorem dL_law_1607 : decode cL_law 1607 = .ok (.iaload, 1) := by decide +kernel
theorem dL_law_1608 : decode cL_law 1608 = .ok (.invokevirtual 192, 3) := by decide +kernel
theorem dL_law_1611 : decode cL_law 1611 = .ok (.istore 6, 2) := by decide +kernel
theorem dL_law_1613 : decode cL_law 1613 = .ok (.aload_n 2, 1) := by decide +kernel
theorem dL_law_1614 : decode cL_law 1614 = .ok (.invokevirtual 100, 3) := by decide +kernel
theorem dL_law_1617 : decode cL_law 1617 = .ok (.iload 5, 2) := by decide +kernel
theorem dL_law_1619 : decode cL_law 1619 = .ok (.if_icmp .eq 5, 3) := by decide +kernel
theorem dL_law_1622 : decode cL_law 1622 = .ok (.iconst 0, 1) := by decide +kernel
theorem dL_law_1623 : decode cL_law 1623 = .ok (.ireturn, 1) := by decide +kernel
theorem dL_law_1624 : decode cL_law 1624 = .ok (.iload 5, 2) := by decide +kernel
theorem dL_law_1626 : decode cL_law 1626 = .ok (.ifCond .ne 15, 3) := by decide +kernel
theorem dL_law_1629 : decode cL_law 1629 = .ok (.aload_n 3, 1) := by decide +kernel
theorem dL_law_1630 : decode cL_law 1630 = .ok (.iconst 0, 1) := by decide +kernel
theorem dL_law_1631 : decode cL_law 1631 = .ok (.laload, 1) := by decide +kernel
theorem dL_law_1632 : decode cL_law 1632 = .ok (.iload 6, 2) := by decide +kernel
theorem dL_law_1634 : decode cL_law 1634 = .ok (.i2l, 1) := by decide +kernel
theorem dL_law_1635 : decode cL_law 1635 = .ok (.lcmp, 1) := by decide +kernel
theorem dL_law_1636 : decode cL_law 1636 = .ok (.ifCond .eq 5, 3) := by decide +kernel
theorem dL_law_1639 : decode cL_law 1639 = .ok (.iconst 0, 1) := by decide +kernel
theorem dL_law_1640 : decode cL_law 1640 = .ok (.ireturn, 1) := by decide +kernel
theorem dL_law_1641 : decode cL_law 1641 = .ok (.goto 126, 3) := by decide +kernel
theorem dL_law_1644 : decode cL_law 1644 = .ok (.aload_n 1, 1) := by decide +kernel
theorem dL_law_1645 : decode cL_law 1645 = .ok (.aload_n 0, 1) := by decide +kernel
theorem dL_law_1646 : decode cL_law 1646 = .ok (.iload 4, 2) := by decide +kernel
theorem dL_law_1648 : decode cL_law 1648 = .ok (.iconst 1, 1) := by decide +kernel
theorem dL_law_1649 : decode cL_law 1649 = .ok (.iadd, 1) := by decide +kernel
theorem dL_law_1650 : decode cL_law 1650 = .ok (.iaload, 1) := by decide +kernel
theorem dL_law_1651 : decode cL_law 1651 = .ok (.aload_n 0, 1) := by decide +kernel
theorem dL_law_1652 : decode cL_law 1652 = .ok (.iload 4, 2) := by decide +kernel
theorem dL_law_1654 : decode cL_law 1654 = .ok (.iconst 2, 1) := by decide +kernel
theorem dL_law_1655 : decode cL_law 1655 = .ok (.iadd, 1) := by decide +kernel
theorem dL_law_1656 : decode cL_law 1656 = .ok (.iaload, 1) := by decide +kernel
theorem dL_law_1657 : decode cL_law 1657 = .ok (.aload_n 3, 1) := by decide +kernel
theorem dL_law_1658 : decode cL_law 1658 = .ok (.invokestatic 193, 3) := by decide +kernel
theorem dL_law_1661 : decode cL_law 1661 = .ok (.istore 5, 2) := by decide +kernel
theorem dL_law_1663 : decode cL_law 1663 = .ok (.aload_n 2, 1) := by decide +kernel
theorem dL_law_1664 : decode cL_law 1664 = .ok (.aload_n 0, 1) := by decide +kernel
theorem dL_law_1665 : decode cL_law 1665 = .ok (.iload 4, 2) := by decide +kernel
theorem dL_law_1667 : decode cL_law 1667 = .ok (.iconst 1, 1) := by decide +kernel
theorem dL_law_1668 : decode cL_law 1668 = .ok (.iadd, 1) := by decide +kernel
theorem dL_law_1669 : decode cL_law 1669 = .ok (.iaload, 1) := by decide +kernel
theorem dL_law_1670 : decode cL_law 1670 = .ok (.aload_n 0, 1) := by decide +kernel
theorem dL_law_1671 : decode cL_law 1671 = .ok (.iload 4, 2) := by decide +kernel
theorem dL_law_1673 : decode cL_law 1673 = .ok (.iconst 2, 1) := by decide +kernel
theorem dL_law_1674 : decode cL_law 1674 = .ok (.iadd, 1) := by decide +kernel
theorem dL_law_1675 : decode cL_law 1675 = .ok (.iaload, 1) := by decide +kernel
theorem dL_law_1676 : decode cL_law 1676 = .ok (.invokevirtual 195, 3) := by decide +kernel
theorem dL_law_1679 : decode cL_law 1679 = .ok (.istore 6, 2) := by decide +kernel
theorem dL_law_1681 : decode cL_law 1681 = .ok (.aload_n 2, 1) := by decide +kernel
theorem dL_law_1682 : decode cL_law 1682 = .ok (.invokevirtual 100, 3) := by decide +kernel
theorem dL_law_1685 : decode cL_law 1685 = .ok (.iload 5, 2) := by decide +kernel
theorem dL_law_1687 : decode cL_law 1687 = .ok (.if_icmp .eq 5, 3) := by decide +kernel
theorem dL_law_1690 : decode cL_law 1690 = .ok (.iconst 0, 1) := by decide +kernel
theorem dL_law_1691 : decode cL_law 1691 = .ok (.ireturn, 1) := by decide +kernel
theorem dL_law_1692 : decode cL_law 1692 = .ok (.iload 5, 2) := by decide +kernel
theorem dL_law_1694 : decode cL_law 1694 = .ok (.ifCond .ne 15, 3) := by decide +kernel
theorem dL_law_1697 : decode cL_law 1697 = .ok (.aload_n 3, 1) := by decide +kernel
theorem dL_law_1698 : decode cL_law 1698 = .ok (.iconst 0, 1) := by decide +kernel
theorem dL_law_1699 : decode cL_law 1699 = .ok (.laload, 1) := by decide +kernel
theorem dL_law_1700 : decode cL_law 1700 = .ok (.iload 6, 2) := by decide +kernel
theorem dL_law_1702 : decode cL_law 1702 = .ok (.i2l, 1) := by decide +kernel
theorem dL_law_1703 : decode cL_law 1703 = .ok (.lcmp, 1) := by decide +kernel
theorem dL_law_1704 : decode cL_law 1704 = .ok (.ifCond .eq 5, 3) := by decide +kernel
theorem dL_law_1707 : decode cL_law 1707 = .ok (.iconst 0, 1) := by decide +kernel
theorem dL_law_1708 : decode cL_law 1708 = .ok (.ireturn, 1) := by decide +kernel
theorem dL_law_1709 : decode cL_law 1709 = .ok (.goto 58, 3) := by decide +kernel
theorem dL_law_1712 : decode cL_law 1712 = .ok (.aload_n 1, 1) := by decide +kernel
theorem dL_law_1713 : decode cL_law 1713 = .ok (.invokevirtual 196, 3) := by decide +kernel
theorem dL_law_1716 : decode cL_law 1716 = .ok (.dstore 5, 2) := by decide +kernel
theorem dL_law_1718 : decode cL_law 1718 = .ok (.aload_n 2, 1) := by decide +kernel
theorem dL_law_1719 : decode cL_law 1719 = .ok (.invokevirtual 200, 3) := by decide +kernel
theorem dL_law_1722 : decode cL_law 1722 = .ok (.dstore 7, 2) := by decide +kernel
theorem dL_law_1724 : decode cL_law 1724 = .ok (.dload 5, 2) := by decide +kernel
theorem dL_law_1726 : decode cL_law 1726 = .ok (.dload 7, 2) := by decide +kernel
theorem dL_law_1728 : decode cL_law 1728 = .ok (.dcmp .l, 1) := by decide +kernel
theorem dL_law_1729 : decode cL_law 1729 = .ok (.ifCond .eq 21, 3) := by decide +kernel
theorem dL_law_1732 : decode cL_law 1732 = .ok (.dload 5, 2) := by decide +kernel
theorem dL_law_1734 : decode cL_law 1734 = .ok (.dload 5, 2) := by decide +kernel
theorem dL_law_1736 : decode cL_law 1736 = .ok (.dcmp .l, 1) := by decide +kernel
theorem dL_law_1737 : decode cL_law 1737 = .ok (.ifCond .eq 11, 3) := by decide +kernel
theorem dL_law_1740 : decode cL_law 1740 = .ok (.dload 7, 2) := by decide +kernel
theorem dL_law_1742 : decode cL_law 1742 = .ok (.dload 7, 2) := by decide +kernel
theorem dL_law_1744 : decode cL_law 1744 = .ok (.dcmp .l, 1) := by decide +kernel
theorem dL_law_1745 : decode cL_law 1745 = .ok (.ifCond .ne 5, 3) := by decide +kernel
theorem dL_law_1748 : decode cL_law 1748 = .ok (.iconst 0, 1) := by decide +kernel
theorem dL_law_1749 : decode cL_law 1749 = .ok (.ireturn, 1) := by decide +kernel
theorem dL_law_1750 : decode cL_law 1750 = .ok (.goto 17, 3) := by decide +kernel
theorem dL_law_1753 : decode cL_law 1753 = .ok (.aload_n 1, 1) := by decide +kernel
theorem dL_law_1754 : decode cL_law 1754 = .ok (.invokevirtual 201, 3) := by decide +kernel
theorem dL_law_1757 : decode cL_law 1757 = .ok (.aload_n 2, 1) := by decide +kernel
theorem dL_law_1758 : decode cL_law 1758 = .ok (.invokevirtual 205, 3) := by decide +kernel
theorem dL_law_1761 : decode cL_law 1761 = .ok (.lcmp, 1) := by decide +kernel
theorem dL_law_1762 : decode cL_law 1762 = .ok (.ifCond .eq 5, 3) := by decide +kernel
theorem dL_law_1765 : decode cL_law 1765 = .ok (.iconst 0, 1) := by decide +kernel
theorem dL_law_1766 : decode cL_law 1766 = .ok (.ireturn, 1) := by decide +kernel
theorem dL_law_1767 : decode cL_law 1767 = .ok (.iinc 4 4, 3) := by decide +kernel
theorem dL_law_1770 : decode cL_law 1770 = .ok (.goto (-1747), 3) := by decide +kernel
theorem dL_law_1773 : decode cL_law 1773 = .ok (.iconst 1, 1) := by decide +kernel
theorem dL_law_1774 : decode cL_law 1774 = .ok (.ireturn, 1) := by decide +kernel
abbrev vwCl : List vw_C := [(RX0, TX0, 3), (RX1, TX1, 9), (RX2, TX2, 6)]
end
