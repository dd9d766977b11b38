section
-- ===== PART A: goes FIRST, ahead of the names: the tables' words, and 'selects' of the private methods out of them =====
/-- a private method of a class that the tables say can be made, by its rows of tables_1 -/
def lw_okq (q : MethodName × Nat) : Prop := (q.1.cls ≠ "java/lang/invoke/MethodHandle" ∧ q.1.cls ≠ "java/lang/invoke/VarHandle") ∧ Cond.instantiable q.1.cls q.2 ∈ tables_1 ∧ Cond.privateMethod q.1 ∈ tables_1 ∧ Cond.instanceMethod q.1 ∈ tables_1
theorem lw_p0 : lw_okq (⟨"PeatHearths$Shelf", "isInside", "(I)Z"⟩, 4) := ⟨⟨by decide +kernel, by decide +kernel⟩, List.mem_of_getElem? (i := 57) (by decide +kernel), List.mem_of_getElem? (i := 120) (by decide +kernel), List.mem_of_getElem? (i := 121) (by decide +kernel)⟩
theorem lw_p1 : lw_okq (⟨"java/lang/Throwable", "fillInStackTrace", "(I)Ljava/lang/Throwable;"⟩, 6) := ⟨⟨by decide +kernel, by decide +kernel⟩, List.mem_of_getElem? (i := 243) (by decide +kernel), List.mem_of_getElem? (i := 241) (by decide +kernel), List.mem_of_getElem? (i := 242) (by decide +kernel)⟩
theorem lw_p2 : lw_okq (⟨"PeatHearths$Land", "weather", "(I)V"⟩, 1) := ⟨⟨by decide +kernel, by decide +kernel⟩, List.mem_of_getElem? (i := 23) (by decide +kernel), List.mem_of_getElem? (i := 364) (by decide +kernel), List.mem_of_getElem? (i := 365) (by decide +kernel)⟩
theorem lw_p3 : lw_okq (⟨"PeatHearths$Land", "wetAgain", "(I)V"⟩, 1) := ⟨⟨by decide +kernel, by decide +kernel⟩, List.mem_of_getElem? (i := 23) (by decide +kernel), List.mem_of_getElem? (i := 368) (by decide +kernel), List.mem_of_getElem? (i := 369) (by decide +kernel)⟩
theorem lw_p4 : lw_okq (⟨"PeatHearths$Land", "dryOut", "(I)V"⟩, 1) := ⟨⟨by decide +kernel, by decide +kernel⟩, List.mem_of_getElem? (i := 23) (by decide +kernel), List.mem_of_getElem? (i := 375) (by decide +kernel), List.mem_of_getElem? (i := 376) (by decide +kernel)⟩
theorem lw_p5 : lw_okq (⟨"PeatHearths$Land", "burn", "()V"⟩, 1) := ⟨⟨by decide +kernel, by decide +kernel⟩, List.mem_of_getElem? (i := 23) (by decide +kernel), List.mem_of_getElem? (i := 380) (by decide +kernel), List.mem_of_getElem? (i := 381) (by decide +kernel)⟩
theorem lw_p6 : lw_okq (⟨"PeatHearths$Land", "cutTurves", "()V"⟩, 1) := ⟨⟨by decide +kernel, by decide +kernel⟩, List.mem_of_getElem? (i := 23) (by decide +kernel), List.mem_of_getElem? (i := 384) (by decide +kernel), List.mem_of_getElem? (i := 385) (by decide +kernel)⟩
theorem lw_p7 : lw_okq (⟨"PeatHearths$Land", "goCarts", "()I"⟩, 1) := ⟨⟨by decide +kernel, by decide +kernel⟩, List.mem_of_getElem? (i := 23) (by decide +kernel), List.mem_of_getElem? (i := 395) (by decide +kernel), List.mem_of_getElem? (i := 396) (by decide +kernel)⟩
theorem lw_p8 : lw_okq (⟨"PeatHearths$Land", "cartHome", "(III)I"⟩, 1) := ⟨⟨by decide +kernel, by decide +kernel⟩, List.mem_of_getElem? (i := 23) (by decide +kernel), List.mem_of_getElem? (i := 399) (by decide +kernel), List.mem_of_getElem? (i := 400) (by decide +kernel)⟩
theorem lw_p9 : lw_okq (⟨"PeatHearths$Land", "poorestWidow", "()I"⟩, 1) := ⟨⟨by decide +kernel, by decide +kernel⟩, List.mem_of_getElem? (i := 23) (by decide +kernel), List.mem_of_getElem? (i := 403) (by decide +kernel), List.mem_of_getElem? (i := 404) (by decide +kernel)⟩
theorem lw_p10 : lw_okq (⟨"PeatHearths", "playPart", "(I)Z"⟩, 5) := ⟨⟨by decide +kernel, by decide +kernel⟩, List.mem_of_getElem? (i := 15) (by decide +kernel), List.mem_of_getElem? (i := 573) (by decide +kernel), List.mem_of_getElem? (i := 574) (by decide +kernel)⟩
theorem lw_p11 : lw_okq (⟨"PeatHearthsModel", "fails", "(I)I"⟩, 15) := ⟨⟨by decide +kernel, by decide +kernel⟩, List.mem_of_getElem? (i := 647) (by decide +kernel), List.mem_of_getElem? (i := 707) (by decide +kernel), List.mem_of_getElem? (i := 708) (by decide +kernel)⟩
theorem lw_p12 : lw_okq (⟨"PeatHearthsModel", "save", "()V"⟩, 15) := ⟨⟨by decide +kernel, by decide +kernel⟩, List.mem_of_getElem? (i := 647) (by decide +kernel), List.mem_of_getElem? (i := 719) (by decide +kernel), List.mem_of_getElem? (i := 720) (by decide +kernel)⟩
theorem lw_p13 : lw_okq (⟨"PeatHearthsModel", "reason", "(II)I"⟩, 15) := ⟨⟨by decide +kernel, by decide +kernel⟩, List.mem_of_getElem? (i := 647) (by decide +kernel), List.mem_of_getElem? (i := 751) (by decide +kernel), List.mem_of_getElem? (i := 752) (by decide +kernel)⟩
theorem lw_p14 : lw_okq (⟨"PeatHearthsModel", "sharesOf", "(II)I"⟩, 15) := ⟨⟨by decide +kernel, by decide +kernel⟩, List.mem_of_getElem? (i := 647) (by decide +kernel), List.mem_of_getElem? (i := 755) (by decide +kernel), List.mem_of_getElem? (i := 756) (by decide +kernel)⟩
theorem lw_p15 : lw_okq (⟨"PeatHearthsModel", "commons", "(I)I"⟩, 15) := ⟨⟨by decide +kernel, by decide +kernel⟩, List.mem_of_getElem? (i := 647) (by decide +kernel), List.mem_of_getElem? (i := 759) (by decide +kernel), List.mem_of_getElem? (i := 760) (by decide +kernel)⟩
def lw_privs_1 : List (MethodName × Nat) := [(⟨"PeatHearths$Shelf", "isInside", "(I)Z"⟩, 4), (⟨"java/lang/Throwable", "fillInStackTrace", "(I)Ljava/lang/Throwable;"⟩, 6), (⟨"PeatHearths$Land", "weather", "(I)V"⟩, 1), (⟨"PeatHearths$Land", "wetAgain", "(I)V"⟩, 1), (⟨"PeatHearths$Land", "dryOut", "(I)V"⟩, 1), (⟨"PeatHearths$Land", "burn", "()V"⟩, 1), (⟨"PeatHearths$Land", "cutTurves", "()V"⟩, 1), (⟨"PeatHearths$Land", "goCarts", "()I"⟩, 1), (⟨"PeatHearths$Land", "cartHome", "(III)I"⟩, 1), (⟨"PeatHearths$Land", "poorestWidow", "()I"⟩, 1), (⟨"PeatHearths", "playPart", "(I)Z"⟩, 5), (⟨"PeatHearthsModel", "fails", "(I)I"⟩, 15), (⟨"PeatHearthsModel", "save", "()V"⟩, 15), (⟨"PeatHearthsModel", "reason", "(II)I"⟩, 15), (⟨"PeatHearthsModel", "sharesOf", "(II)I"⟩, 15), (⟨"PeatHearthsModel", "commons", "(I)I"⟩, 15)]
theorem lw_r1 : ∀ q ∈ lw_privs_1, lw_okq q := List.forall_mem_cons.mpr ⟨lw_p0, List.forall_mem_cons.mpr ⟨lw_p1, List.forall_mem_cons.mpr ⟨lw_p2, List.forall_mem_cons.mpr ⟨lw_p3, List.forall_mem_cons.mpr ⟨lw_p4, List.forall_mem_cons.mpr ⟨lw_p5, List.forall_mem_cons.mpr ⟨lw_p6, List.forall_mem_cons.mpr ⟨lw_p7, List.forall_mem_cons.mpr ⟨lw_p8, List.forall_mem_cons.mpr ⟨lw_p9, List.forall_mem_cons.mpr ⟨lw_p10, List.forall_mem_cons.mpr ⟨lw_p11, List.forall_mem_cons.mpr ⟨lw_p12, List.forall_mem_cons.mpr ⟨lw_p13, List.forall_mem_cons.mpr ⟨lw_p14, List.forall_mem_cons.mpr ⟨lw_p15, fun _ h => absurd h List.not_mem_nil⟩⟩⟩⟩⟩⟩⟩⟩⟩⟩⟩⟩⟩⟩⟩⟩
theorem lw_p16 : lw_okq (⟨"PeatHearthsModel", "workers", "(II)I"⟩, 15) := ⟨⟨by decide +kernel, by decide +kernel⟩, List.mem_of_getElem? (i := 647) (by decide +kernel), List.mem_of_getElem? (i := 763) (by decide +kernel), List.mem_of_getElem? (i := 764) (by decide +kernel)⟩
theorem lw_p17 : lw_okq (⟨"PeatHearthsModel", "setToWork", "(III)V"⟩, 15) := ⟨⟨by decide +kernel, by decide +kernel⟩, List.mem_of_getElem? (i := 647) (by decide +kernel), List.mem_of_getElem? (i := 767) (by decide +kernel), List.mem_of_getElem? (i := 768) (by decide +kernel)⟩
theorem lw_p18 : lw_okq (⟨"PeatHearthsModel", "allWorkers", "()I"⟩, 15) := ⟨⟨by decide +kernel, by decide +kernel⟩, List.mem_of_getElem? (i := 647) (by decide +kernel), List.mem_of_getElem? (i := 775) (by decide +kernel), List.mem_of_getElem? (i := 776) (by decide +kernel)⟩
theorem lw_p19 : lw_okq (⟨"PeatHearthsModel", "workersOn", "(I)I"⟩, 15) := ⟨⟨by decide +kernel, by decide +kernel⟩, List.mem_of_getElem? (i := 647) (by decide +kernel), List.mem_of_getElem? (i := 779) (by decide +kernel), List.mem_of_getElem? (i := 780) (by decide +kernel)⟩
theorem lw_p20 : lw_okq (⟨"PeatHearthsModel", "turnSnow", "()I"⟩, 15) := ⟨⟨by decide +kernel, by decide +kernel⟩, List.mem_of_getElem? (i := 647) (by decide +kernel), List.mem_of_getElem? (i := 791) (by decide +kernel), List.mem_of_getElem? (i := 792) (by decide +kernel)⟩
theorem lw_p21 : lw_okq (⟨"PeatHearthsModel", "passes", "(I)I"⟩, 15) := ⟨⟨by decide +kernel, by decide +kernel⟩, List.mem_of_getElem? (i := 647) (by decide +kernel), List.mem_of_getElem? (i := 799) (by decide +kernel), List.mem_of_getElem? (i := 800) (by decide +kernel)⟩
theorem lw_p22 : lw_okq (⟨"PeatHearthsModel", "passOne", "()I"⟩, 15) := ⟨⟨by decide +kernel, by decide +kernel⟩, List.mem_of_getElem? (i := 647) (by decide +kernel), List.mem_of_getElem? (i := 803) (by decide +kernel), List.mem_of_getElem? (i := 804) (by decide +kernel)⟩
theorem lw_p23 : lw_okq (⟨"PeatHearthsModel", "rainOf", "(I)I"⟩, 15) := ⟨⟨by decide +kernel, by decide +kernel⟩, List.mem_of_getElem? (i := 647) (by decide +kernel), List.mem_of_getElem? (i := 807) (by decide +kernel), List.mem_of_getElem? (i := 808) (by decide +kernel)⟩
theorem lw_p24 : lw_okq (⟨"PeatHearthsModel", "cutAll", "()V"⟩, 15) := ⟨⟨by decide +kernel, by decide +kernel⟩, List.mem_of_getElem? (i := 647) (by decide +kernel), List.mem_of_getElem? (i := 813) (by decide +kernel), List.mem_of_getElem? (i := 814) (by decide +kernel)⟩
theorem lw_p25 : lw_okq (⟨"PeatHearthsModel", "soak", "(I)V"⟩, 15) := ⟨⟨by decide +kernel, by decide +kernel⟩, List.mem_of_getElem? (i := 647) (by decide +kernel), List.mem_of_getElem? (i := 820) (by decide +kernel), List.mem_of_getElem? (i := 821) (by decide +kernel)⟩
theorem lw_p26 : lw_okq (⟨"PeatHearthsModel", "dry", "(I)V"⟩, 15) := ⟨⟨by decide +kernel, by decide +kernel⟩, List.mem_of_getElem? (i := 647) (by decide +kernel), List.mem_of_getElem? (i := 824) (by decide +kernel), List.mem_of_getElem? (i := 825) (by decide +kernel)⟩
theorem lw_p27 : lw_okq (⟨"PeatHearthsModel", "burnAll", "()V"⟩, 15) := ⟨⟨by decide +kernel, by decide +kernel⟩, List.mem_of_getElem? (i := 647) (by decide +kernel), List.mem_of_getElem? (i := 828) (by decide +kernel), List.mem_of_getElem? (i := 829) (by decide +kernel)⟩
theorem lw_p28 : lw_okq (⟨"PeatHearthsModel", "cart", "(I)I"⟩, 15) := ⟨⟨by decide +kernel, by decide +kernel⟩, List.mem_of_getElem? (i := 647) (by decide +kernel), List.mem_of_getElem? (i := 832) (by decide +kernel), List.mem_of_getElem? (i := 833) (by decide +kernel)⟩
theorem lw_p29 : lw_okq (⟨"PeatHearthsModel", "bringHome", "(III)V"⟩, 15) := ⟨⟨by decide +kernel, by decide +kernel⟩, List.mem_of_getElem? (i := 647) (by decide +kernel), List.mem_of_getElem? (i := 836) (by decide +kernel), List.mem_of_getElem? (i := 837) (by decide +kernel)⟩
theorem lw_p30 : lw_okq (⟨"PeatHearthsModel", "poorest", "()I"⟩, 15) := ⟨⟨by decide +kernel, by decide +kernel⟩, List.mem_of_getElem? (i := 647) (by decide +kernel), List.mem_of_getElem? (i := 840) (by decide +kernel), List.mem_of_getElem? (i := 841) (by decide +kernel)⟩
theorem lw_p31 : lw_okq (⟨"PeatHearthsModel", "findError", "()I"⟩, 15) := ⟨⟨by decide +kernel, by decide +kernel⟩, List.mem_of_getElem? (i := 647) (by decide +kernel), List.mem_of_getElem? (i := 866) (by decide +kernel), List.mem_of_getElem? (i := 867) (by decide +kernel)⟩
def lw_privs_2 : List (MethodName × Nat) := [(⟨"PeatHearthsModel", "workers", "(II)I"⟩, 15), (⟨"PeatHearthsModel", "setToWork", "(III)V"⟩, 15), (⟨"PeatHearthsModel", "allWorkers", "()I"⟩, 15), (⟨"PeatHearthsModel", "workersOn", "(I)I"⟩, 15), (⟨"PeatHearthsModel", "turnSnow", "()I"⟩, 15), (⟨"PeatHearthsModel", "passes", "(I)I"⟩, 15), (⟨"PeatHearthsModel", "passOne", "()I"⟩, 15), (⟨"PeatHearthsModel", "rainOf", "(I)I"⟩, 15), (⟨"PeatHearthsModel", "cutAll", "()V"⟩, 15), (⟨"PeatHearthsModel", "soak", "(I)V"⟩, 15), (⟨"PeatHearthsModel", "dry", "(I)V"⟩, 15), (⟨"PeatHearthsModel", "burnAll", "()V"⟩, 15), (⟨"PeatHearthsModel", "cart", "(I)I"⟩, 15), (⟨"PeatHearthsModel", "bringHome", "(III)V"⟩, 15), (⟨"PeatHearthsModel", "poorest", "()I"⟩, 15), (⟨"PeatHearthsModel", "findError", "()I"⟩, 15)]
theorem lw_r2 : ∀ q ∈ lw_privs_2, lw_okq q := List.forall_mem_cons.mpr ⟨lw_p16, List.forall_mem_cons.mpr ⟨lw_p17, List.forall_mem_cons.mpr ⟨lw_p18, List.forall_mem_cons.mpr ⟨lw_p19, List.forall_mem_cons.mpr ⟨lw_p20, List.forall_mem_cons.mpr ⟨lw_p21, List.forall_mem_cons.mpr ⟨lw_p22, List.forall_mem_cons.mpr ⟨lw_p23, List.forall_mem_cons.mpr ⟨lw_p24, List.forall_mem_cons.mpr ⟨lw_p25, List.forall_mem_cons.mpr ⟨lw_p26, List.forall_mem_cons.mpr ⟨lw_p27, List.forall_mem_cons.mpr ⟨lw_p28, List.forall_mem_cons.mpr ⟨lw_p29, List.forall_mem_cons.mpr ⟨lw_p30, List.forall_mem_cons.mpr ⟨lw_p31, fun _ h => absurd h List.not_mem_nil⟩⟩⟩⟩⟩⟩⟩⟩⟩⟩⟩⟩⟩⟩⟩⟩
theorem lw_p32 : lw_okq (⟨"PeatHearthsModel", "readsPart", "()Z"⟩, 15) := ⟨⟨by decide +kernel, by decide +kernel⟩, List.mem_of_getElem? (i := 647) (by decide +kernel), List.mem_of_getElem? (i := 870) (by decide +kernel), List.mem_of_getElem? (i := 871) (by decide +kernel)⟩
theorem lw_p33 : lw_okq (⟨"PeatHearthsModel", "next", "()I"⟩, 15) := ⟨⟨by decide +kernel, by decide +kernel⟩, List.mem_of_getElem? (i := 647) (by decide +kernel), List.mem_of_getElem? (i := 874) (by decide +kernel), List.mem_of_getElem? (i := 875) (by decide +kernel)⟩
theorem lw_p34 : lw_okq (⟨"PeatHearthsModel", "takeDigit", "(I)I"⟩, 15) := ⟨⟨by decide +kernel, by decide +kernel⟩, List.mem_of_getElem? (i := 647) (by decide +kernel), List.mem_of_getElem? (i := 878) (by decide +kernel), List.mem_of_getElem? (i := 879) (by decide +kernel)⟩
theorem lw_p35 : lw_okq (⟨"PeatHearthsModel", "readsWork", "()Z"⟩, 15) := ⟨⟨by decide +kernel, by decide +kernel⟩, List.mem_of_getElem? (i := 647) (by decide +kernel), List.mem_of_getElem? (i := 882) (by decide +kernel), List.mem_of_getElem? (i := 883) (by decide +kernel)⟩
theorem lw_p36 : lw_okq (⟨"PeatHearthsModel", "takes", "(I)Z"⟩, 15) := ⟨⟨by decide +kernel, by decide +kernel⟩, List.mem_of_getElem? (i := 647) (by decide +kernel), List.mem_of_getElem? (i := 886) (by decide +kernel), List.mem_of_getElem? (i := 887) (by decide +kernel)⟩
theorem lw_p37 : lw_okq (⟨"PeatHearthsModel", "readsDays", "()Z"⟩, 15) := ⟨⟨by decide +kernel, by decide +kernel⟩, List.mem_of_getElem? (i := 647) (by decide +kernel), List.mem_of_getElem? (i := 890) (by decide +kernel), List.mem_of_getElem? (i := 891) (by decide +kernel)⟩
theorem lw_p38 : lw_okq (⟨"PeatHearthsModel", "doesPart", "()Z"⟩, 15) := ⟨⟨by decide +kernel, by decide +kernel⟩, List.mem_of_getElem? (i := 647) (by decide +kernel), List.mem_of_getElem? (i := 898) (by decide +kernel), List.mem_of_getElem? (i := 899) (by decide +kernel)⟩
theorem lw_p39 : lw_okq (⟨"PeatHearthsModel", "tellsHearth", "(II)I"⟩, 15) := ⟨⟨by decide +kernel, by decide +kernel⟩, List.mem_of_getElem? (i := 647) (by decide +kernel), List.mem_of_getElem? (i := 906) (by decide +kernel), List.mem_of_getElem? (i := 907) (by decide +kernel)⟩
theorem lw_p40 : lw_okq (⟨"PeatHearthsModel", "ofHearth", "(I)I"⟩, 15) := ⟨⟨by decide +kernel, by decide +kernel⟩, List.mem_of_getElem? (i := 647) (by decide +kernel), List.mem_of_getElem? (i := 910) (by decide +kernel), List.mem_of_getElem? (i := 911) (by decide +kernel)⟩
theorem lw_p41 : lw_okq (⟨"PeatHearthsModel", "turvesOn", "(II)I"⟩, 15) := ⟨⟨by decide +kernel, by decide +kernel⟩, List.mem_of_getElem? (i := 647) (by decide +kernel), List.mem_of_getElem? (i := 914) (by decide +kernel), List.mem_of_getElem? (i := 915) (by decide +kernel)⟩
theorem lw_p42 : lw_okq (⟨"PeatHearthsModel", "shortNow", "(I)I"⟩, 15) := ⟨⟨by decide +kernel, by decide +kernel⟩, List.mem_of_getElem? (i := 647) (by decide +kernel), List.mem_of_getElem? (i := 918) (by decide +kernel), List.mem_of_getElem? (i := 919) (by decide +kernel)⟩
theorem lw_p43 : lw_okq (⟨"PeatHearthsModel", "shortThen", "(I)I"⟩, 15) := ⟨⟨by decide +kernel, by decide +kernel⟩, List.mem_of_getElem? (i := 647) (by decide +kernel), List.mem_of_getElem? (i := 925) (by decide +kernel), List.mem_of_getElem? (i := 926) (by decide +kernel)⟩
theorem lw_p44 : lw_okq (⟨"PeatHearthsModel", "shortByBook", "(I)I"⟩, 15) := ⟨⟨by decide +kernel, by decide +kernel⟩, List.mem_of_getElem? (i := 647) (by decide +kernel), List.mem_of_getElem? (i := 929) (by decide +kernel), List.mem_of_getElem? (i := 930) (by decide +kernel)⟩
theorem lw_p45 : lw_okq (⟨"PeatHearthsModel", "tellsBank", "(II)I"⟩, 15) := ⟨⟨by decide +kernel, by decide +kernel⟩, List.mem_of_getElem? (i := 647) (by decide +kernel), List.mem_of_getElem? (i := 937) (by decide +kernel), List.mem_of_getElem? (i := 938) (by decide +kernel)⟩
theorem lw_p46 : lw_okq (⟨"PeatHearthsModel", "lieOn", "(I)I"⟩, 15) := ⟨⟨by decide +kernel, by decide +kernel⟩, List.mem_of_getElem? (i := 647) (by decide +kernel), List.mem_of_getElem? (i := 941) (by decide +kernel), List.mem_of_getElem? (i := 942) (by decide +kernel)⟩
theorem lw_p47 : lw_okq (⟨"PeatHearthsModel", "tellsPlot", "(III)I"⟩, 15) := ⟨⟨by decide +kernel, by decide +kernel⟩, List.mem_of_getElem? (i := 647) (by decide +kernel), List.mem_of_getElem? (i := 949) (by decide +kernel), List.mem_of_getElem? (i := 950) (by decide +kernel)⟩
def lw_privs_3 : List (MethodName × Nat) := [(⟨"PeatHearthsModel", "readsPart", "()Z"⟩, 15), (⟨"PeatHearthsModel", "next", "()I"⟩, 15), (⟨"PeatHearthsModel", "takeDigit", "(I)I"⟩, 15), (⟨"PeatHearthsModel", "readsWork", "()Z"⟩, 15), (⟨"PeatHearthsModel", "takes", "(I)Z"⟩, 15), (⟨"PeatHearthsModel", "readsDays", "()Z"⟩, 15), (⟨"PeatHearthsModel", "doesPart", "()Z"⟩, 15), (⟨"PeatHearthsModel", "tellsHearth", "(II)I"⟩, 15), (⟨"PeatHearthsModel", "ofHearth", "(I)I"⟩, 15), (⟨"PeatHearthsModel", "turvesOn", "(II)I"⟩, 15), (⟨"PeatHearthsModel", "shortNow", "(I)I"⟩, 15), (⟨"PeatHearthsModel", "shortThen", "(I)I"⟩, 15), (⟨"PeatHearthsModel", "shortByBook", "(I)I"⟩, 15), (⟨"PeatHearthsModel", "tellsBank", "(II)I"⟩, 15), (⟨"PeatHearthsModel", "lieOn", "(I)I"⟩, 15), (⟨"PeatHearthsModel", "tellsPlot", "(III)I"⟩, 15)]
theorem lw_r3 : ∀ q ∈ lw_privs_3, lw_okq q := List.forall_mem_cons.mpr ⟨lw_p32, List.forall_mem_cons.mpr ⟨lw_p33, List.forall_mem_cons.mpr ⟨lw_p34, List.forall_mem_cons.mpr ⟨lw_p35, List.forall_mem_cons.mpr ⟨lw_p36, List.forall_mem_cons.mpr ⟨lw_p37, List.forall_mem_cons.mpr ⟨lw_p38, List.forall_mem_cons.mpr ⟨lw_p39, List.forall_mem_cons.mpr ⟨lw_p40, List.forall_mem_cons.mpr ⟨lw_p41, List.forall_mem_cons.mpr ⟨lw_p42, List.forall_mem_cons.mpr ⟨lw_p43, List.forall_mem_cons.mpr ⟨lw_p44, List.forall_mem_cons.mpr ⟨lw_p45, List.forall_mem_cons.mpr ⟨lw_p46, List.forall_mem_cons.mpr ⟨lw_p47, fun _ h => absurd h List.not_mem_nil⟩⟩⟩⟩⟩⟩⟩⟩⟩⟩⟩⟩⟩⟩⟩⟩
theorem lw_p48 : lw_okq (⟨"PeatHearthsModel", "tellsCutter", "(II)I"⟩, 15) := ⟨⟨by decide +kernel, by decide +kernel⟩, List.mem_of_getElem? (i := 647) (by decide +kernel), List.mem_of_getElem? (i := 957) (by decide +kernel), List.mem_of_getElem? (i := 958) (by decide +kernel)⟩
theorem lw_p49 : lw_okq (⟨"PeatHearthsModel", "tellsCount", "(I)I"⟩, 15) := ⟨⟨by decide +kernel, by decide +kernel⟩, List.mem_of_getElem? (i := 647) (by decide +kernel), List.mem_of_getElem? (i := 969) (by decide +kernel), List.mem_of_getElem? (i := 970) (by decide +kernel)⟩
theorem lw_p50 : lw_okq (⟨"PeatHearthsModel", "sumOf", "(II)I"⟩, 15) := ⟨⟨by decide +kernel, by decide +kernel⟩, List.mem_of_getElem? (i := 647) (by decide +kernel), List.mem_of_getElem? (i := 973) (by decide +kernel), List.mem_of_getElem? (i := 974) (by decide +kernel)⟩
theorem lw_p51 : lw_okq (⟨"PeatHearthsModel", "shortHearths", "(Z)I"⟩, 15) := ⟨⟨by decide +kernel, by decide +kernel⟩, List.mem_of_getElem? (i := 647) (by decide +kernel), List.mem_of_getElem? (i := 977) (by decide +kernel), List.mem_of_getElem? (i := 978) (by decide +kernel)⟩
theorem lw_p52 : lw_okq (⟨"PeatHearthsModel", "wouldPass", "(II)I"⟩, 15) := ⟨⟨by decide +kernel, by decide +kernel⟩, List.mem_of_getElem? (i := 647) (by decide +kernel), List.mem_of_getElem? (i := 989) (by decide +kernel), List.mem_of_getElem? (i := 990) (by decide +kernel)⟩
theorem lw_p53 : lw_okq (⟨"PeatHearthsModel", "putAside", "()V"⟩, 15) := ⟨⟨by decide +kernel, by decide +kernel⟩, List.mem_of_getElem? (i := 647) (by decide +kernel), List.mem_of_getElem? (i := 993) (by decide +kernel), List.mem_of_getElem? (i := 994) (by decide +kernel)⟩
theorem lw_p54 : lw_okq (⟨"PeatHearthsModel", "takeBack", "()V"⟩, 15) := ⟨⟨by decide +kernel, by decide +kernel⟩, List.mem_of_getElem? (i := 647) (by decide +kernel), List.mem_of_getElem? (i := 997) (by decide +kernel), List.mem_of_getElem? (i := 998) (by decide +kernel)⟩
theorem lw_p55 : lw_okq (⟨"PeatHearthsModel", "daysUntil", "(I)I"⟩, 15) := ⟨⟨by decide +kernel, by decide +kernel⟩, List.mem_of_getElem? (i := 647) (by decide +kernel), List.mem_of_getElem? (i := 1005) (by decide +kernel), List.mem_of_getElem? (i := 1006) (by decide +kernel)⟩
theorem lw_p56 : lw_okq (⟨"PeatHearthsModel", "bestFor", "(II)I"⟩, 15) := ⟨⟨by decide +kernel, by decide +kernel⟩, List.mem_of_getElem? (i := 647) (by decide +kernel), List.mem_of_getElem? (i := 1013) (by decide +kernel), List.mem_of_getElem? (i := 1014) (by decide +kernel)⟩
theorem lw_p57 : lw_okq (⟨"PeatHearthsModel", "homeWith", "(III)I"⟩, 15) := ⟨⟨by decide +kernel, by decide +kernel⟩, List.mem_of_getElem? (i := 647) (by decide +kernel), List.mem_of_getElem? (i := 1017) (by decide +kernel), List.mem_of_getElem? (i := 1018) (by decide +kernel)⟩
theorem lw_p58 : lw_okq (⟨"PeatHearthsModel", "share", "()D"⟩, 15) := ⟨⟨by decide +kernel, by decide +kernel⟩, List.mem_of_getElem? (i := 647) (by decide +kernel), List.mem_of_getElem? (i := 1025) (by decide +kernel), List.mem_of_getElem? (i := 1026) (by decide +kernel)⟩
theorem lw_p59 : lw_okq (⟨"PeatHearthsModel", "mix", "(J)V"⟩, 15) := ⟨⟨by decide +kernel, by decide +kernel⟩, List.mem_of_getElem? (i := 647) (by decide +kernel), List.mem_of_getElem? (i := 1034) (by decide +kernel), List.mem_of_getElem? (i := 1035) (by decide +kernel)⟩
theorem lw_p60 : lw_okq (⟨"PeatHearthsModel", "mixHearth", "(I)V"⟩, 15) := ⟨⟨by decide +kernel, by decide +kernel⟩, List.mem_of_getElem? (i := 647) (by decide +kernel), List.mem_of_getElem? (i := 1039) (by decide +kernel), List.mem_of_getElem? (i := 1040) (by decide +kernel)⟩
def lw_privs_4 : List (MethodName × Nat) := [(⟨"PeatHearthsModel", "tellsCutter", "(II)I"⟩, 15), (⟨"PeatHearthsModel", "tellsCount", "(I)I"⟩, 15), (⟨"PeatHearthsModel", "sumOf", "(II)I"⟩, 15), (⟨"PeatHearthsModel", "shortHearths", "(Z)I"⟩, 15), (⟨"PeatHearthsModel", "wouldPass", "(II)I"⟩, 15), (⟨"PeatHearthsModel", "putAside", "()V"⟩, 15), (⟨"PeatHearthsModel", "takeBack", "()V"⟩, 15), (⟨"PeatHearthsModel", "daysUntil", "(I)I"⟩, 15), (⟨"PeatHearthsModel", "bestFor", "(II)I"⟩, 15), (⟨"PeatHearthsModel", "homeWith", "(III)I"⟩, 15), (⟨"PeatHearthsModel", "share", "()D"⟩, 15), (⟨"PeatHearthsModel", "mix", "(J)V"⟩, 15), (⟨"PeatHearthsModel", "mixHearth", "(I)V"⟩, 15)]
theorem lw_r4 : ∀ q ∈ lw_privs_4, lw_okq q := List.forall_mem_cons.mpr ⟨lw_p48, List.forall_mem_cons.mpr ⟨lw_p49, List.forall_mem_cons.mpr ⟨lw_p50, List.forall_mem_cons.mpr ⟨lw_p51, List.forall_mem_cons.mpr ⟨lw_p52, List.forall_mem_cons.mpr ⟨lw_p53, List.forall_mem_cons.mpr ⟨lw_p54, List.forall_mem_cons.mpr ⟨lw_p55, List.forall_mem_cons.mpr ⟨lw_p56, List.forall_mem_cons.mpr ⟨lw_p57, List.forall_mem_cons.mpr ⟨lw_p58, List.forall_mem_cons.mpr ⟨lw_p59, List.forall_mem_cons.mpr ⟨lw_p60, fun _ h => absurd h List.not_mem_nil⟩⟩⟩⟩⟩⟩⟩⟩⟩⟩⟩⟩⟩
def lw_privs : List (MethodName × Nat) := lw_privs_1 ++ (lw_privs_2 ++ (lw_privs_3 ++ (lw_privs_4)))
def lw_tbl : List Cond := k2_sels lw_privs ++ tables_1
theorem lw_privs_ok : ∀ q ∈ lw_privs, lw_okq q := by
  show ∀ q ∈ lw_privs_1 ++ (lw_privs_2 ++ (lw_privs_3 ++ (lw_privs_4))), lw_okq q
  exact List.forall_mem_append.mpr ⟨lw_r1, List.forall_mem_append.mpr ⟨lw_r2, List.forall_mem_append.mpr ⟨lw_r3, lw_r4⟩⟩⟩
/-- the streams that the claim lets the run draw from -/
abbrev lw_cs : List Choice := [Jvm.Choice.named "NaN.bits"]
theorem lw_bits : nanBits ∈ lw_cs := by first | decide | exact List.mem_cons_self | simp [lw_cs, nanBits]
end
section
/-! ===== BEGIN words of one list among another's, by their places ===== -/
theorem goodIn_r {big : List Cond} (ws : List Cond) (ps : List Nat) (hp : ws = ps.filterMap (fun i => big[i]?)) (h : ws.all goodWord = true) : GoodIn big ws := by
  intro w hw
  have h1 := List.all_eq_true.mp h w hw
  rw [hp] at hw
  obtain ⟨i, -, hi⟩ := List.mem_filterMap.mp hw
  have hm : w ∈ big := by first | exact List.mem_of_getElem? hi | exact List.getElem?_mem hi
  exact ⟨hm, good_of_word h1⟩
theorem goodIn_app {big a b : List Cond} (ha : GoodIn big a) (hb : GoodIn big b) : GoodIn big (a ++ b) := fun w h => (List.mem_append.mp h).elim (ha w) (hb w)
theorem goodIn_ca {big a b : List Cond} {c : Cond} (ha : GoodIn big (c :: a)) (hb : GoodIn big b) : GoodIn big (c :: (a ++ b)) := fun w h => (List.mem_cons.mp h).elim (fun e => ha w (List.mem_cons.mpr (Or.inl e))) (fun h => (List.mem_append.mp h).elim (fun h => ha w (List.mem_cons.mpr (Or.inr h))) (hb w))
theorem goodIn_sub {big ws : List Cond} (hm : ∀ w ∈ ws, w ∈ big) (h : ws.all goodWord = true) : GoodIn big ws := fun w hw => ⟨hm w hw, good_of_word (List.all_eq_true.mp h w hw)⟩
/-! ===== END ===== -/

/-! ===== BEGIN exceptions that leave a method, and their catching by the caller (launches without stack traces) ===== -/
section VXA
/-! The laws vx_back, vx_callV, vx_callS, vx_callSW, vx_throw0, vx_throwS follow proofs of the library, with one case more: JvmDerived/Free/Laws.lean (Back.of_free), Shelf42/LK1.lean (callV, callS), Shelf/KitTraced.lean (throwNew0V, throwNewS). -/
/-- where a method has thrown q: the class by its name, the cell, what was written, the world -/
def vx_T (XC : String → State → State → Prop) (st : State) (q : Addr) (t : State) (mc ms : Nat) (free : Addr → Prop) : Prop :=
  ∃ (E : String) (ce : Cell) (L : List Loc), XC E st t ∧ t.heap[q]? = some ce ∧ ce.vm = .none ∧ st.vm.findClass E = some ce.cls ∧ st.WarmedH t.vm ∧ st.sameButNew ({ t with vm := st.vm } : State) L mc ms ∧ ∀ z ∈ L, free z.base
def vx_Q (Qc : Array Value → State → Outcome → State → Prop) (XC : String → State → State → Prop) (mc ms : Nat) (free : Addr → Prop) : Array Value → State → Outcome → State → Prop := fun a st o t =>
  (Qc a st o t ∧ ∃ L, FrameEnd st o t L mc ms ∧ ∀ q ∈ L, free q.base) ∨ ∃ q, o = .threw q ∧ vx_T XC st q t mc ms free
/-- a callee that returns or throws -/
def vx_Met (l : Launch) (y : MethodName) (ws : List Cond) (rm : Room) (Pc : Array Value → State → Prop) (Qc : Array Value → State → Outcome → State → Prop) (XC : String → State → State → Prop) (mc ms : Nat) (free : Addr → Prop) : Prop :=
  MetFree l y (headSpec ws rm) Pc (fun _ _ _ _ _ => True) (vx_Q Qc XC mc ms free)
def vx_Post (XC : String → State → State → Prop) (mc ms : Nat) (free : Addr → Prop) : Pt → Array Value → Addr → Pt → Prop := fun A a q B =>
  ∃ (g : JFrame) (mk : MethodId) (t : State) (L : List Loc) (E : String) (ce : Cell), B.U.heap = t.heap ∧ B.U.vm = t.vm ∧ XC E (A.U.calling g mk a) t ∧ t.heap[q]? = some ce ∧ ce.vm = .none ∧ A.U.vm.findClass E = some ce.cls ∧ B.locs = A.locs ++ L ∧ (∀ z ∈ L, free z.base) ∧ B.cells = A.cells + mc ∧ B.slots = A.slots + ms
def vx_Back (l : Launch) (R : Room) (p : Program) (e : Env) (below : List Frame) (s : State) (sargs : Array Value) (y : MethodName) (len W9 : Nat)
    (Pre : Pt → Array Value → Prop) (Post : Pt → Array Value → Option Value → Pt → Prop) (PostX : Pt → Array Value → Addr → Pt → Prop) : Prop :=
  ∀ (m : MethodId) (meth : Method) (c : Code) (A : Pt) (g : JFrame) (ig : Instr) (mk : MethodId) (a : Array Value),
    Stand p l e R s m sargs below meth c A.U A.locs A.cells A.slots → g.method = m → g.locals.size = c.maxLocals → decode c.code g.pc = .ok (ig, len) →
    2 * g.monitorRoom + (g.stack.map fun v => v.category).sum ≤ W9 → A.U.methodNamed? y = some mk → Pre A a →
    (∃ (v : Option Value) (B : Pt), Stand p l e R s m sargs below meth c B.U B.locs B.cells B.slots ∧ Post A a v B ∧
      Steps p.tables e below (doInvoke e (A.U.setTop g) [] mk a).1 (B.U.setTop { g with pc := g.pc + len, stack := v.toList ++ g.stack })) ∨
    (∃ (q : Addr) (B : Pt), Stand p l e R s m sargs below meth c B.U B.locs B.cells B.slots ∧ PostX A a q B ∧
      Steps p.tables e below (doInvoke e (A.U.setTop g) [] mk a).1 ((B.U.setTop g).pushFrame (.throwing q)))
section Payer
variable {l : Launch} {R : Room} {p : Program} {e : Env} {below : List Frame} {s : State} {sargs : Array Value} {y : MethodName} {len W9 : Nat}
theorem vx_back {ws : List Cond} {rm : Room} {Pc : Array Value → State → Prop} {Qc : Array Value → State → Outcome → State → Prop} {XC : String → State → State → Prop} {mc ms : Nat} {free : Addr → Prop} {bytes : ByteArray} {maxL : Nat} {ret : Option FieldType}
    (hM : vx_Met l y ws rm Pc Qc XC mc ms free) (hblind : FrameBlind Pc) (hrc : rm.cells = mc) (hrs : rm.slots = ms)
    (hframes : rm.frames + 1 ≤ R.frames) (hlocals : W9 + (maxL + 11) + rm.locals ≤ R.locals)
    (hws : ∀ w ∈ ws, ∀ a' U, s.WarmedH U.vm → w.before a' U = true) (hcode : Cond.code y bytes maxL ret ∈ ws) (hinit : ∀ a' U, s.WarmedH U.vm → (Cond.initialized y.cls).before a' U = true) :
    vx_Back l R p e below s sargs y len W9 (PreOf R mc ms Pc) (PostOf Qc mc ms free) (vx_Post XC mc ms free) := by
  intro m meth c A g ig mk a X hg hsize hdg hW hn hp
  have h1 : (headSpec ws rm).pre.before a A.U = true := atoms_intro fun w hw => hws w hw _ _ X.warmed
  have h2 : (Cond.code y bytes maxL ret).before a A.U = true := hws _ hcode _ _ X.warmed
  have h3 : (Cond.initialized y.cls).before a A.U = true := hinit _ _ X.warmed
  have h4 : A.cells + (headSpec ws rm).room.cells ≤ R.cells := by rw [show (headSpec ws rm).room.cells = mc from hrc]; exact hp.1
  have h5 : A.slots + (headSpec ws rm).room.slots ≤ R.slots := by rw [show (headSpec ws rm).room.slots = ms from hrs]; exact hp.2.1
  have hPc : Pc a (A.U.calling g mk a) := hblind _ _ _ _ hp.2.2
  obtain ⟨U, Ls, c0, s0⟩ := A
  dsimp only [Pt.U, Pt.locs, Pt.cells, Pt.slots] at h1 h2 h3 h4 h5 X hn hPc ⊢
  obtain ⟨methY, cY, hmY, hcY, -, hlY, -, -, -, -⟩ := Cond.code_spec hn h2
  obtain ⟨kY, hkY, -⟩ := className_of_methodNamed hn
  have hinitY : kY.init = .initialized := Cond.initialized_spec (findClass_of_methodNamed hn) hkY h3
  have h : At U g.method c below := by rw [hg]; exact X.here
  have hlocals9 : W9 + (maxL + 11) + (headSpec ws rm).room.locals ≤ R.locals := hlocals
  have happ : (headSpec ws rm).appliesLoose y e.platform (U.calling g mk a) = true :=
    Spec.appliesLoose_calling (g := g) h hdg hn hkY hinitY
      (X.room_calling (g := g) (R' := (headSpec ws rm).room) hsize hmY hcY hframes (by rw [hlY]; omega) h4 h5) h1
  obtain ⟨mid, hmid⟩ := h.above
  have hfr : (U.setTop g).frames = (.java g :: mid) ++ below := by rw [State.frames_setTop' g h.top, hmid]; rfl
  obtain ⟨o, s₂, hsteps, -, hend, hq⟩ := Steps.callFree hM p X.admits X.cas X.clock (acts := []) hfr happ hPc trivial
  have hq' : vx_Q Qc XC mc ms free a (U.calling g mk a) o s₂ := hq
  rw [State.frames_setTop' g h.top] at hend
  obtain ⟨g₀, hg0⟩ := Option.isSome_iff_exists.mp h.top
  obtain ⟨r, hr⟩ := State.topJava?_eq_some.mp hg0
  have hr' : (({ U with heap := s₂.heap, slotsUsed := s₂.slotsUsed } : State).setVm s₂.vm).frames = .java g₀ :: r := hr
  rcases hq' with ⟨hqc, L, hfe, hL⟩ | ⟨q, rfl, E, ce, L, hx, hce, hcv, hcl, hW₂, hsm, hL⟩
  · obtain ⟨⟨v, rfl⟩, hW₂, e2, q2, q3, q4, q5, q6⟩ := id hfe
    have e3 : s₂ = ({ (U.calling g mk a).setFrames s₂.frames with heap := s₂.heap, slotsUsed := s₂.slotsUsed } : State).setVm s₂.vm := by
      have : s₂ = ({ s₂ with vm := (U.calling g mk a).vm } : State).setVm s₂.vm := rfl
      rw [e2] at this
      exact this
    obtain ⟨c₂, i₂, len₂, hc₂, hd₂, hf₂⟩ := hend
    have hW' : U.WarmedH s₂.vm := hW₂
    have hcc : c₂ = c := by
      have h1 : s₂.code? g.method = U.code? g.method := by
        rw [State.code?_eq, State.code?_eq, hW'.alike.method?]
      exact Option.some.inj (hc₂.symm.trans (h1.trans h.code))
    subst hcc
    have hlen : len₂ = len := by rw [hdg] at hd₂; cases hd₂; rfl
    subst hlen
    have hs₂ : s₂ = (({ U with heap := s₂.heap, slotsUsed := s₂.slotsUsed } : State).setVm s₂.vm).setTop { g with pc := g.pc + len₂, stack := v.toList ++ g.stack } := by
      refine e3.trans ?_
      rw [hf₂, State.calling_eq h.top, State.setFrames_setFrames, State.setTop_of_frames _ hr', hr]
      rfl
    have hsame : U.sameButNew ({ U with heap := s₂.heap, slotsUsed := s₂.slotsUsed } : State) L mc ms := by
      refine ⟨?_, q2, q3, q4, q5, q6⟩
      obtain ⟨t, ht, -⟩ := State.frames_cons hr
      show ({ U with heap := s₂.heap, slotsUsed := s₂.slotsUsed } : State) = { U.setFrames U.frames with heap := s₂.heap, slotsUsed := s₂.slotsUsed }
      rw [State.setFrames_self ht]
    subst hg
    refine Or.inl ⟨v, ⟨(({ U with heap := s₂.heap, slotsUsed := s₂.slotsUsed } : State).setVm s₂.vm), Ls ++ L, c0 + mc, s0 + ms⟩,
      ⟨X.admits, X.cas, X.clock, X.frames, X.room, X.hears, X.method, X.code, (X.here.setHeapUsed s₂.heap s₂.slotsUsed).setVm hW'.alike, X.tail, State.WarmedH.trans X.warmed hW', X.limits, X.bytes, X.same.trans (hsame.setVm s.vm)⟩,
      ⟨g, mk, s₂, L, rfl, rfl, hqc, rfl, hL, rfl, rfl⟩, ?_⟩
    show Steps p.tables e below _ ((({ U with heap := s₂.heap, slotsUsed := s₂.slotsUsed } : State).setVm s₂.vm).setTop { g with pc := g.pc + len₂, stack := v.toList ++ g.stack })
    rw [← hs₂]
    exact hsteps
  · obtain ⟨e2, q2, q3, q4, q5, q6⟩ := id hsm
    have e3 : s₂ = ({ (U.calling g mk a).setFrames s₂.frames with heap := s₂.heap, slotsUsed := s₂.slotsUsed } : State).setVm s₂.vm := by
      have : s₂ = ({ s₂ with vm := (U.calling g mk a).vm } : State).setVm s₂.vm := rfl
      rw [e2] at this
      exact this
    have hf₂ : s₂.frames = .throwing q :: .java g :: U.frames.tail := hend
    have hW' : U.WarmedH s₂.vm := hW₂
    have hs₂ : s₂ = ((({ U with heap := s₂.heap, slotsUsed := s₂.slotsUsed } : State).setVm s₂.vm).setTop g).pushFrame (.throwing q) := by
      refine e3.trans ?_
      rw [hf₂, State.calling_eq h.top, State.setFrames_setFrames, State.pushFrame, State.frames_setTop _ hr', State.setTop_of_frames _ hr', State.setFrames_setFrames, hr]
      rfl
    have hsame : U.sameButNew ({ U with heap := s₂.heap, slotsUsed := s₂.slotsUsed } : State) L mc ms := by
      refine ⟨?_, q2, q3, q4, q5, q6⟩
      obtain ⟨t, ht, -⟩ := State.frames_cons hr
      show ({ U with heap := s₂.heap, slotsUsed := s₂.slotsUsed } : State) = { U.setFrames U.frames with heap := s₂.heap, slotsUsed := s₂.slotsUsed }
      rw [State.setFrames_self ht]
    subst hg
    refine Or.inr ⟨q, ⟨(({ U with heap := s₂.heap, slotsUsed := s₂.slotsUsed } : State).setVm s₂.vm), Ls ++ L, c0 + mc, s0 + ms⟩,
      ⟨X.admits, X.cas, X.clock, X.frames, X.room, X.hears, X.method, X.code, (X.here.setHeapUsed s₂.heap s₂.slotsUsed).setVm hW'.alike, X.tail, State.WarmedH.trans X.warmed hW', X.limits, X.bytes, X.same.trans (hsame.setVm s.vm)⟩,
      ⟨g, mk, s₂, L, E, ce, rfl, rfl, hx, hce, hcv, hcl, rfl, hL, rfl, rfl⟩, ?_⟩
    show Steps p.tables e below _ (((({ U with heap := s₂.heap, slotsUsed := s₂.slotsUsed } : State).setVm s₂.vm).setTop g).pushFrame (.throwing q))
    rw [← hs₂]
    exact hsteps
end Payer
section Calls
variable {p : Program} {l : Launch} {e : Env} {R : Room} {s : State} {m : MethodId} {args : Array Value} {below : List Frame} {meth : Method} {c : Code} {T : State} {locs : List Loc} {cells slots : Nat}
theorem vx_callV (X : Stand p l e R s m args below meth c T locs cells slots) (hexec : p.tables.exec = Jvm.exec) {own C : String} {index : Nat} {y : MethodName} {bytes : ByteArray} {maxL : Nat} {ret : Option FieldType}
    (hown : s.vm.findClass own = some m.cls) (hlink : (Cond.methodLink own index y).before args s = true) (hinst : (Cond.instanceMethod y).before args s = true) (hsel : (Cond.selects C y y).before args s = true)
    (hcode : (Cond.code y bytes maxL ret).before args s = true) (hy : y.cls ≠ "java/lang/invoke/MethodHandle" ∧ y.cls ≠ "java/lang/invoke/VarHandle")
    {W9 : Nat} {Pre : Pt → Array Value → Prop} {Post : Pt → Array Value → Option Value → Pt → Prop} {PostX : Pt → Array Value → Addr → Pt → Prop} (hK : vx_Back l R p e below s args y 3 W9 Pre Post PostX)
    {b : Addr} {cellB : Cell} (hcell : T.heap[b]? = some cellB) (hobj : cellB.vm.isStatics = false) (hcls : s.vm.findClass C = some cellB.cls)
    {g : JFrame} (hg : g.method = m) (hsize : g.locals.size = c.maxLocals) {argsL rest : List Value} (hlen : ∀ sig, parseMethodDescriptor y.desc = some sig → argsL.length = sig.parameters.length)
    (hstack : g.stack = argsL.reverse ++ .ref b :: rest) (hW : 2 * g.monitorRoom + (rest.map fun v => v.category).sum ≤ W9) (hdg : decode c.code g.pc = .ok (.invokevirtual index, 3))
    (hpre : ∀ vm₁, s.WarmedH vm₁ → Pre ⟨T.setVm vm₁, locs, cells, slots⟩ (Value.ref b :: argsL).toArray) :
    (∃ (v : Option Value) (vm₁ : Vm) (B : Pt), s.WarmedH vm₁ ∧ Stand p l e R s m args below meth c B.U B.locs B.cells B.slots ∧ Post ⟨T.setVm vm₁, locs, cells, slots⟩ (Value.ref b :: argsL).toArray v B ∧
      ∀ target, Steps p.tables e below (B.U.setTop { g with pc := g.pc + 3, stack := v.toList ++ rest }) target → Steps p.tables e below (T.setTop g) target) ∨
    (∃ (q : Addr) (vm₁ : Vm) (B : Pt), s.WarmedH vm₁ ∧ Stand p l e R s m args below meth c B.U B.locs B.cells B.slots ∧ PostX ⟨T.setVm vm₁, locs, cells, slots⟩ (Value.ref b :: argsL).toArray q B ∧
      Steps p.tables e below (T.setTop g) ((B.U.setTop { g with stack := rest }).pushFrame (.throwing q))) := by
  obtain ⟨mk, methM, hnamed, hmethM, hstM, habM⟩ := Cond.instanceMethod_spec hinst
  obtain ⟨methM', cM, hmethM', -, -, -, -, -, -, hsigM⟩ := Cond.code_spec hnamed hcode
  cases hmethM.symm.trans hmethM'
  obtain ⟨c2, r2, m2, q1, q2, q3, q4, kP, hkP, hkPi⟩ := Cond.selects_spec hsel
  cases hcls.symm.trans q1
  cases (State.methodFound?_of_named hnamed hy).symm.trans q2
  cases hnamed.symm.trans q3
  have hselP : selectMethod e.platform s.vm cellB.cls mk = .method mk := by rw [Launch.admits_selectMethod X.admits]; exact q4
  obtain ⟨vm₁, X₁, hstep₁⟩ := X.invokevirtual hexec hown hlink hnamed hmethM hstM hkP hkPi hy (a := b) (cell := cellB) hcell
    (fun z h => by rw [h] at hobj; cases hobj) hselP hmethM habM hkP hkPi (g := g) hg (argsL := argsL) (rest := rest) (hlen _ hsigM) hstack hdg
  rcases hK m meth c ⟨T.setVm vm₁, locs, cells, slots⟩ { g with stack := rest } (.invokevirtual index) mk (Value.ref b :: argsL).toArray X₁ hg hsize hdg hW (X₁.named hnamed) (hpre vm₁ X₁.warmed) with ⟨v, B, X', hpost, hsteps⟩ | ⟨q, B, X', hpost, hsteps⟩
  · exact Or.inl ⟨v, vm₁, B, X₁.warmed, X', hpost, fun target h => hstep₁ _ fun acts => by rw [doInvoke_state]; exact hsteps.trans h⟩
  · exact Or.inr ⟨q, vm₁, B, X₁.warmed, X', hpost, hstep₁ _ fun acts => by rw [doInvoke_state]; exact hsteps⟩
theorem vx_callS (X : Stand p l e R s m args below meth c T locs cells slots) (hexec : p.tables.exec = Jvm.exec) {own : String} {index : Nat} {y : MethodName} {bytes : ByteArray} {maxL : Nat} {ret : Option FieldType}
    (hown : s.vm.findClass own = some m.cls) (hlink : (Cond.methodLink own index y).before args s = true) (hstat : (Cond.static y).before args s = true) (hinit : (Cond.initialized y.cls).before args s = true)
    (hcode : (Cond.code y bytes maxL ret).before args s = true) (hy : y.cls ≠ "java/lang/invoke/MethodHandle" ∧ y.cls ≠ "java/lang/invoke/VarHandle")
    {W9 : Nat} {Pre : Pt → Array Value → Prop} {Post : Pt → Array Value → Option Value → Pt → Prop} {PostX : Pt → Array Value → Addr → Pt → Prop} (hK : vx_Back l R p e below s args y 3 W9 Pre Post PostX)
    {g : JFrame} (hg : g.method = m) (hsize : g.locals.size = c.maxLocals) {argsL rest : List Value} (hlen : ∀ sig, parseMethodDescriptor y.desc = some sig → argsL.length = sig.parameters.length)
    (hstack : g.stack = argsL.reverse ++ rest) (hW : 2 * g.monitorRoom + (rest.map fun v => v.category).sum ≤ W9) (hdg : decode c.code g.pc = .ok (.invokestatic index, 3))
    (hpre : ∀ vm₁, s.WarmedH vm₁ → Pre ⟨T.setVm vm₁, locs, cells, slots⟩ argsL.toArray) :
    (∃ (v : Option Value) (vm₁ : Vm) (B : Pt), s.WarmedH vm₁ ∧ Stand p l e R s m args below meth c B.U B.locs B.cells B.slots ∧ Post ⟨T.setVm vm₁, locs, cells, slots⟩ argsL.toArray v B ∧
      ∀ target, Steps p.tables e below (B.U.setTop { g with pc := g.pc + 3, stack := v.toList ++ rest }) target → Steps p.tables e below (T.setTop g) target) ∨
    (∃ (q : Addr) (vm₁ : Vm) (B : Pt), s.WarmedH vm₁ ∧ Stand p l e R s m args below meth c B.U B.locs B.cells B.slots ∧ PostX ⟨T.setVm vm₁, locs, cells, slots⟩ argsL.toArray q B ∧
      Steps p.tables e below (T.setTop g) ((B.U.setTop { g with stack := rest }).pushFrame (.throwing q))) := by
  obtain ⟨mk, hnamed⟩ := Cond.code_named hcode
  obtain ⟨methM, cM, hmethM, -, -, -, -, -, -, hsigM⟩ := Cond.code_spec hnamed hcode
  have hstatic : methM.isStatic = true := Cond.static_spec hnamed hmethM hstat
  obtain ⟨kP, hkP, -⟩ := className_of_methodNamed hnamed
  have hinitP : kP.init = .initialized := Cond.initialized_spec (findClass_of_methodNamed hnamed) hkP hinit
  obtain ⟨vm₁, X₁, hstep₁⟩ := X.invokestatic hexec hown hlink hnamed hmethM hstatic hkP hinitP hy (g := g) hg (argsL := argsL) (rest := rest) (hlen _ hsigM) hstack hdg
  rcases hK m meth c ⟨T.setVm vm₁, locs, cells, slots⟩ { g with stack := rest } (.invokestatic index) mk argsL.toArray X₁ hg hsize hdg hW (X₁.named hnamed) (hpre vm₁ X₁.warmed) with ⟨v, B, X', hpost, hsteps⟩ | ⟨q, B, X', hpost, hsteps⟩
  · exact Or.inl ⟨v, vm₁, B, X₁.warmed, X', hpost, fun target h => hstep₁ _ fun acts => by rw [doInvoke_state]; exact hsteps.trans h⟩
  · exact Or.inr ⟨q, vm₁, B, X₁.warmed, X', hpost, hstep₁ _ fun acts => by rw [doInvoke_state]; exact hsteps⟩
end Calls
theorem vx_cls {s : State} {T : State} {vm₁ : Vm} {E : String} {k : ClassId} (hW : s.WarmedH vm₁) (h : (T.setVm vm₁).vm.findClass E = some k) : s.vm.findClass E = some k := by
  have h1 : vm₁.findClass E = some k := h
  rw [hW.alike.findClass] at h1
  exact h1
/-- the method's frame g, with q thrown over it -/
def vx_W (p : Program) (l : Launch) (e : Env) (R : Room) (s : State) (m : MethodId) (args : Array Value) (below : List Frame) (meth : Method) (c : Code) (H : Heap) (locs : List Loc) (cells slots : Nat) (Q : State → Prop) (g : JFrame) (q : Addr) : Prop :=
  ∀ T : State, T.heap = H → Stand p l e R s m args below meth c T locs cells slots → ∃ t, Steps p.tables e below ((T.setTop g).pushFrame (.throwing q)) t ∧ Q t
def vx_Run (p : Program) (l : Launch) (e : Env) (R : Room) (s : State) (m : MethodId) (args : Array Value) (below : List Frame) (meth : Method) (c : Code) (H : Heap) (locs : List Loc) (cells slots mc ms : Nat) (g : JFrame) (rest : List Value) (Qa : State → Outcome → State → Prop) (XC : String → State → State → Prop) (free : Addr → Prop) : Prop :=
  ∀ T : State, T.heap = H → Stand p l e R s m args below meth c T locs cells slots →
    (∃ (v : Option Value) (st₀ t T' : State) (L : List Loc), st₀.heap = H ∧ Stand p l e R s m args below meth c T' (locs ++ L) (cells + mc) (slots + ms) ∧ (∀ q ∈ L, free q.base) ∧ T'.heap = t.heap ∧ T'.vm = t.vm ∧ Qa st₀ (.returned v) t ∧
      Goes p e below T g T' { g with pc := g.pc + 3, stack := v.toList ++ rest }) ∨
    (∃ (q : Addr) (st₀ t T' : State) (L : List Loc) (E : String) (ce : Cell), st₀.heap = H ∧ Stand p l e R s m args below meth c T' (locs ++ L) (cells + mc) (slots + ms) ∧ (∀ z ∈ L, free z.base) ∧ T'.heap = t.heap ∧ T'.vm = t.vm ∧ XC E st₀ t ∧ t.heap[q]? = some ce ∧ ce.vm = .none ∧ s.vm.findClass E = some ce.cls ∧
      Steps p.tables e below (T.setTop g) ((T'.setTop { g with stack := rest }).pushFrame (.throwing q)))
def vx_X {S : Type} (px : S → Prop) (B : String → S → State → Prop) (A : Nat → Prop) : String → State → State → Prop := fun E st t => ∃ u : S, px u ∧ B E u t ∧ va_F A st t
section Runs
variable {p : Program} {l : Launch} {e : Env} {R : Room} {s : State} {m : MethodId} {args : Array Value} {below : List Frame} {meth : Method} {c : Code} {H : Heap} {locs : List Loc} {cells slots : Nat}
variable {y : MethodName} {bytes cc : ByteArray} {maxL nL mc ms n index : Nat} {ret : Option FieldType} {ws : List Cond} {rm : Room} {Pc : Array Value → State → Prop} {Qc : Array Value → State → Outcome → State → Prop} {XC : String → State → State → Prop} {free : Addr → Prop} {Ts : List Cond} {own C : String} {b : Addr} {As rest : List Value} {g : JFrame}
theorem vx_callBack (cb : CallB R s args own index y bytes maxL ret ws rm mc ms n) (hM : vx_Met l y ws rm Pc Qc XC mc ms free) (hbl : FrameBlind Pc) : vx_Back l R p e below s args y 3 8 (PreOf R mc ms Pc) (PostOf Qc mc ms free) (vx_Post XC mc ms free) := by
  obtain ⟨hrc, hrs, hfr, hlo, hws, hcw, -, hini, -⟩ := cb
  exact vx_back (bytes := bytes) (maxL := maxL) (ret := ret) hM hbl hrc hrs hfr hlo hws hcw (fun a' U hW => word_at hW (Or.inl (by first | rfl | simp [Cond.onTables, Cond.keeps, Cond.steady])) hini)
theorem vx_runV (S : CallFix p m c cc nL s args Ts own) (hM : vx_Met l y ws rm Pc Qc XC mc ms free) (cw : CallW R s args own C index y bytes maxL ret ws rm mc ms n) (hp : PreV s H C b Pc As)
    (hg : g.method = m) (hn : As.length = n) (hsize : g.locals.size = nL) (hstack : g.stack = As.reverse ++ .ref b :: rest) (hW : 2 * g.monitorRoom + (rest.map fun v => v.category).sum ≤ 8) (hdg : decode cc g.pc = .ok (.invokevirtual index, 3)) (hf : cells + mc ≤ R.cells ∧ slots + ms ≤ R.slots) :
    vx_Run p l e R s m args below meth c H locs cells slots mc ms g rest (Qc (Value.ref b :: As).toArray) XC free := by
  have hK : vx_Back l R p e below s args y 3 8 (PreOf R mc ms Pc) (PostOf Qc mc ms free) (vx_Post XC mc ms free) := vx_callBack cw.1 hM hp.1
  obtain ⟨⟨-, -, -, -, -, -, hcode, -, hy, hlen, hl⟩, hin, hse⟩ := cw
  obtain ⟨hx, hb, hml, ho, -⟩ := S
  obtain ⟨-, ⟨cellB, hcB, hoB, hclB⟩, hPc⟩ := hp
  intro T hT X
  rcases vx_callV X hx (C := C) (bytes := bytes) (maxL := maxL) (ret := ret) ho hl hin hse hcode hy hK (by rw [hT]; exact hcB) hoB hclB hg (hsize.trans hml.symm) (argsL := As) (rest := rest) (fun sig h => hn.trans (hlen sig h)) hstack hW (by rw [hb]; exact hdg)
    (fun vm₁ hW₁ => ⟨hf.1, hf.2, hPc (T.setVm vm₁) hT hW₁⟩) with ⟨v, vm₁, ⟨U', l2, c2, s2⟩, hW₁, X', ⟨g', mk, t, L, e1, e2, hq, h1, hL, h2, h3⟩, st⟩ | ⟨q, vm₁, ⟨U', l2, c2, s2⟩, hW₁, X', ⟨g', mk, t, L, E, ce, e1, e2, hq, hce, hcv, hcl, h1, hL, h2, h3⟩, st⟩
  · dsimp only [Pt.U, Pt.locs, Pt.cells, Pt.slots] at X' e1 e2 h1 h2 h3 st
    subst h1; subst h2; subst h3
    exact Or.inl ⟨v, (T.setVm vm₁).calling g' mk (Value.ref b :: As).toArray, t, U', L, hT, X', hL, e1, e2, hq, st⟩
  · dsimp only [Pt.U, Pt.locs, Pt.cells, Pt.slots] at X' e1 e2 h1 h2 h3 st hcl
    subst h1; subst h2; subst h3
    exact Or.inr ⟨q, (T.setVm vm₁).calling g' mk (Value.ref b :: As).toArray, t, U', L, E, ce, hT, X', hL, e1, e2, hq, hce, hcv, vx_cls hW₁ hcl, st⟩
theorem vx_runS (S : CallFix p m c cc nL s args Ts own) (hM : vx_Met l y ws rm Pc Qc XC mc ms free) (cw : CallB R s args own index y bytes maxL ret ws rm mc ms n ∧ (Cond.static y).before args s = true) (hp : PreS s H Pc As)
    (hg : g.method = m) (hn : As.length = n) (hsize : g.locals.size = nL) (hstack : g.stack = As.reverse ++ rest) (hW : 2 * g.monitorRoom + (rest.map fun v => v.category).sum ≤ 8) (hdg : decode cc g.pc = .ok (.invokestatic index, 3)) (hf : cells + mc ≤ R.cells ∧ slots + ms ≤ R.slots) :
    vx_Run p l e R s m args below meth c H locs cells slots mc ms g rest (Qc As.toArray) XC free := by
  have hK : vx_Back l R p e below s args y 3 8 (PreOf R mc ms Pc) (PostOf Qc mc ms free) (vx_Post XC mc ms free) := vx_callBack cw.1 hM hp.1
  obtain ⟨⟨-, -, -, -, -, -, hcode, hini, hy, hlen, hl⟩, hstt⟩ := cw
  obtain ⟨hx, hb, hml, ho, -⟩ := S
  intro T hT X
  rcases vx_callS X hx (bytes := bytes) (maxL := maxL) (ret := ret) ho hl hstt hini hcode hy hK hg (hsize.trans hml.symm) (argsL := As) (rest := rest) (fun sig h => hn.trans (hlen sig h)) hstack hW (by rw [hb]; exact hdg)
    (fun vm₁ hW₁ => ⟨hf.1, hf.2, hp.2 (T.setVm vm₁) hT hW₁⟩) with ⟨v, vm₁, ⟨U', l2, c2, s2⟩, hW₁, X', ⟨g', mk, t, L, e1, e2, hq, h1, hL, h2, h3⟩, st⟩ | ⟨q, vm₁, ⟨U', l2, c2, s2⟩, hW₁, X', ⟨g', mk, t, L, E, ce, e1, e2, hq, hce, hcv, hcl, h1, hL, h2, h3⟩, st⟩
  · dsimp only [Pt.U, Pt.locs, Pt.cells, Pt.slots] at X' e1 e2 h1 h2 h3 st
    subst h1; subst h2; subst h3
    exact Or.inl ⟨v, (T.setVm vm₁).calling g' mk As.toArray, t, U', L, hT, X', hL, e1, e2, hq, st⟩
  · dsimp only [Pt.U, Pt.locs, Pt.cells, Pt.slots] at X' e1 e2 h1 h2 h3 st hcl
    subst h1; subst h2; subst h3
    exact Or.inr ⟨q, (T.setVm vm₁).calling g' mk As.toArray, t, U', L, E, ce, hT, X', hL, e1, e2, hq, hce, hcv, vx_cls hW₁ hcl, st⟩
end Runs
section Rows
variable {p : Program} {l : Launch} {e : Env} {R : Room} {s : State} {m : MethodId} {args : Array Value} {below : List Frame} {meth : Method} {c : Code} {H : Heap} {locs : List Loc} {cells slots : Nat} {Q : State → Prop}
variable {mc ms : Nat} {free : Addr → Prop} {A0 A1 : Nat → Prop} {H0 : Heap} {a : Array Value} {pc : Nat} {ls : Array Slot} {st0 rest : List Value}
theorem vx_keep {st₀ t T' : State} {L : List Loc} (h0 : st₀.heap = H) (e1 : T'.heap = t.heap) (hS : va_S A0 H0 H locs) (hA : ∀ q, q < H.size → A1 q → A0 q) (hf : ∀ q, free q → A0 q) (hL : ∀ q ∈ L, free q.base) (hF : va_F A1 st₀ t) :
    H.size ≤ T'.heap.size ∧ (∀ q : Nat, q < H.size → ¬ A1 q → T'.heap[q]? = H[q]?) ∧ va_S A0 H0 T'.heap (locs ++ L) := by
  obtain ⟨hz, hk⟩ := hF
  rw [h0] at hz hk
  exact ⟨by rw [e1]; exact hz, fun q h1 h2 => by rw [e1]; exact hk q h1 h2,
    ⟨Nat.le_trans hS.1 (by rw [e1]; exact hz), fun q h1 h2 => by rw [e1, hk q (Nat.lt_of_lt_of_le h1 hS.1) (fun z => h2 (hA q (Nat.lt_of_lt_of_le h1 hS.1) z))]; exact hS.2.1 q h1 h2, fun q hq => by
      rcases List.mem_append.mp hq with h | h
      · exact hS.2.2 q h
      · exact hf _ (hL q h)⟩⟩
theorem vx_calli {S SX : Type} {post : Int32 → S → Prop} {px : SX → Prop} {B : S → State → Prop} {BX : String → SX → State → Prop} {AX : Nat → Prop} (hr : vx_Run p l e R s m args below meth c H locs cells slots mc ms (F0 m pc ls st0) rest (va_Qi post B A1 a) (vx_X px BX AX) free) (hS : va_S A0 H0 H locs) (hA : ∀ q, q < H.size → A1 q → A0 q) (hf : ∀ q, free q → A0 q) (hAX : ∀ q, q < H.size → AX q → A0 q)
    (kx : ∀ (E : String) (ce : Cell) (q9 : Addr) (u : SX) (t : State) (H1 : Heap) (locs1 : List Loc), t.heap = H1 → s.vm.Alike t.vm → px u → BX E u t → H.size ≤ H1.size → (∀ q : Nat, q < H.size → ¬ AX q → H1[q]? = H[q]?) → va_S A0 H0 H1 locs1 → H1[q9]? = some ce → ce.vm = .none → s.vm.findClass E = some ce.cls → vx_W p l e R s m args below meth c H1 locs1 (cells + mc) (slots + ms) Q (F0 m pc ls rest) q9)
    (kk : ∀ (r : Int32) (u : S) (t : State) (H1 : Heap) (locs1 : List Loc), t.heap = H1 → s.vm.Alike t.vm → post r u → B u t → H.size ≤ H1.size → (∀ q : Nat, q < H.size → ¬ A1 q → H1[q]? = H[q]?) → va_S A0 H0 H1 locs1 → W p l e R s m args below meth c H1 locs1 (cells + mc) (slots + ms) Q (F0 m (pc + 3) ls (.int r :: rest))) : W p l e R s m args below meth c H locs cells slots Q (F0 m pc ls st0) := by
  intro T hT X
  rcases hr T hT X with ⟨v, st₀, t, T', L, h0, X', hL, e1, e2, ⟨⟨r, u, hv, hp, hb⟩, hF⟩, st⟩ | ⟨q, st₀, t, T', L, E, ce, h0, X', hL, e1, e2, ⟨u, hp, hb, hF⟩, hce, hcv, hcl, st⟩
  · cases hv
    obtain ⟨k1, k2, k3⟩ := vx_keep h0 e1 hS hA hf hL hF
    obtain ⟨t2, a1, b1⟩ := kk r u t T'.heap (locs ++ L) e1.symm (by rw [← e2]; exact X'.warmed.alike) hp hb k1 k2 k3 T' rfl X'
    exact ⟨t2, st t2 a1, b1⟩
  · obtain ⟨k1, k2, k3⟩ := vx_keep h0 e1 hS hAX hf hL hF
    obtain ⟨t2, a1, b1⟩ := kx E ce q u t T'.heap (locs ++ L) e1.symm (by rw [← e2]; exact X'.warmed.alike) hp hb k1 k2 k3 (by rw [e1]; exact hce) hcv hcl T' rfl X'
    exact ⟨t2, st.trans a1, b1⟩
theorem vx_calll {S SX : Type} {post : Int64 → S → Prop} {px : SX → Prop} {B : S → State → Prop} {BX : String → SX → State → Prop} {AX : Nat → Prop} (hr : vx_Run p l e R s m args below meth c H locs cells slots mc ms (F0 m pc ls st0) rest (va_Ql post B A1 a) (vx_X px BX AX) free) (hS : va_S A0 H0 H locs) (hA : ∀ q, q < H.size → A1 q → A0 q) (hf : ∀ q, free q → A0 q) (hAX : ∀ q, q < H.size → AX q → A0 q)
    (kx : ∀ (E : String) (ce : Cell) (q9 : Addr) (u : SX) (t : State) (H1 : Heap) (locs1 : List Loc), t.heap = H1 → s.vm.Alike t.vm → px u → BX E u t → H.size ≤ H1.size → (∀ q : Nat, q < H.size → ¬ AX q → H1[q]? = H[q]?) → va_S A0 H0 H1 locs1 → H1[q9]? = some ce → ce.vm = .none → s.vm.findClass E = some ce.cls → vx_W p l e R s m args below meth c H1 locs1 (cells + mc) (slots + ms) Q (F0 m pc ls rest) q9)
    (kk : ∀ (r : Int64) (u : S) (t : State) (H1 : Heap) (locs1 : List Loc), t.heap = H1 → s.vm.Alike t.vm → post r u → B u t → H.size ≤ H1.size → (∀ q : Nat, q < H.size → ¬ A1 q → H1[q]? = H[q]?) → va_S A0 H0 H1 locs1 → W p l e R s m args below meth c H1 locs1 (cells + mc) (slots + ms) Q (F0 m (pc + 3) ls (.long r :: rest))) : W p l e R s m args below meth c H locs cells slots Q (F0 m pc ls st0) := by
  intro T hT X
  rcases hr T hT X with ⟨v, st₀, t, T', L, h0, X', hL, e1, e2, ⟨⟨r, u, hv, hp, hb⟩, hF⟩, st⟩ | ⟨q, st₀, t, T', L, E, ce, h0, X', hL, e1, e2, ⟨u, hp, hb, hF⟩, hce, hcv, hcl, st⟩
  · cases hv
    obtain ⟨k1, k2, k3⟩ := vx_keep h0 e1 hS hA hf hL hF
    obtain ⟨t2, a1, b1⟩ := kk r u t T'.heap (locs ++ L) e1.symm (by rw [← e2]; exact X'.warmed.alike) hp hb k1 k2 k3 T' rfl X'
    exact ⟨t2, st t2 a1, b1⟩
  · obtain ⟨k1, k2, k3⟩ := vx_keep h0 e1 hS hAX hf hL hF
    obtain ⟨t2, a1, b1⟩ := kx E ce q u t T'.heap (locs ++ L) e1.symm (by rw [← e2]; exact X'.warmed.alike) hp hb k1 k2 k3 (by rw [e1]; exact hce) hcv hcl T' rfl X'
    exact ⟨t2, st.trans a1, b1⟩
theorem vx_callf {S SX : Type} {post : UInt32 → S → Prop} {px : SX → Prop} {B : S → State → Prop} {BX : String → SX → State → Prop} {AX : Nat → Prop} (hr : vx_Run p l e R s m args below meth c H locs cells slots mc ms (F0 m pc ls st0) rest (va_Qf post B A1 a) (vx_X px BX AX) free) (hS : va_S A0 H0 H locs) (hA : ∀ q, q < H.size → A1 q → A0 q) (hf : ∀ q, free q → A0 q) (hAX : ∀ q, q < H.size → AX q → A0 q)
    (kx : ∀ (E : String) (ce : Cell) (q9 : Addr) (u : SX) (t : State) (H1 : Heap) (locs1 : List Loc), t.heap = H1 → s.vm.Alike t.vm → px u → BX E u t → H.size ≤ H1.size → (∀ q : Nat, q < H.size → ¬ AX q → H1[q]? = H[q]?) → va_S A0 H0 H1 locs1 → H1[q9]? = some ce → ce.vm = .none → s.vm.findClass E = some ce.cls → vx_W p l e R s m args below meth c H1 locs1 (cells + mc) (slots + ms) Q (F0 m pc ls rest) q9)
    (kk : ∀ (r : UInt32) (u : S) (t : State) (H1 : Heap) (locs1 : List Loc), t.heap = H1 → s.vm.Alike t.vm → post r u → B u t → H.size ≤ H1.size → (∀ q : Nat, q < H.size → ¬ A1 q → H1[q]? = H[q]?) → va_S A0 H0 H1 locs1 → W p l e R s m args below meth c H1 locs1 (cells + mc) (slots + ms) Q (F0 m (pc + 3) ls (.float r :: rest))) : W p l e R s m args below meth c H locs cells slots Q (F0 m pc ls st0) := by
  intro T hT X
  rcases hr T hT X with ⟨v, st₀, t, T', L, h0, X', hL, e1, e2, ⟨⟨r, u, hv, hp, hb⟩, hF⟩, st⟩ | ⟨q, st₀, t, T', L, E, ce, h0, X', hL, e1, e2, ⟨u, hp, hb, hF⟩, hce, hcv, hcl, st⟩
  · cases hv
    obtain ⟨k1, k2, k3⟩ := vx_keep h0 e1 hS hA hf hL hF
    obtain ⟨t2, a1, b1⟩ := kk r u t T'.heap (locs ++ L) e1.symm (by rw [← e2]; exact X'.warmed.alike) hp hb k1 k2 k3 T' rfl X'
    exact ⟨t2, st t2 a1, b1⟩
  · obtain ⟨k1, k2, k3⟩ := vx_keep h0 e1 hS hAX hf hL hF
    obtain ⟨t2, a1, b1⟩ := kx E ce q u t T'.heap (locs ++ L) e1.symm (by rw [← e2]; exact X'.warmed.alike) hp hb k1 k2 k3 (by rw [e1]; exact hce) hcv hcl T' rfl X'
    exact ⟨t2, st.trans a1, b1⟩
theorem vx_calld {S SX : Type} {post : UInt64 → S → Prop} {px : SX → Prop} {B : S → State → Prop} {BX : String → SX → State → Prop} {AX : Nat → Prop} (hr : vx_Run p l e R s m args below meth c H locs cells slots mc ms (F0 m pc ls st0) rest (va_Qd post B A1 a) (vx_X px BX AX) free) (hS : va_S A0 H0 H locs) (hA : ∀ q, q < H.size → A1 q → A0 q) (hf : ∀ q, free q → A0 q) (hAX : ∀ q, q < H.size → AX q → A0 q)
    (kx : ∀ (E : String) (ce : Cell) (q9 : Addr) (u : SX) (t : State) (H1 : Heap) (locs1 : List Loc), t.heap = H1 → s.vm.Alike t.vm → px u → BX E u t → H.size ≤ H1.size → (∀ q : Nat, q < H.size → ¬ AX q → H1[q]? = H[q]?) → va_S A0 H0 H1 locs1 → H1[q9]? = some ce → ce.vm = .none → s.vm.findClass E = some ce.cls → vx_W p l e R s m args below meth c H1 locs1 (cells + mc) (slots + ms) Q (F0 m pc ls rest) q9)
    (kk : ∀ (r : UInt64) (u : S) (t : State) (H1 : Heap) (locs1 : List Loc), t.heap = H1 → s.vm.Alike t.vm → post r u → B u t → H.size ≤ H1.size → (∀ q : Nat, q < H.size → ¬ A1 q → H1[q]? = H[q]?) → va_S A0 H0 H1 locs1 → W p l e R s m args below meth c H1 locs1 (cells + mc) (slots + ms) Q (F0 m (pc + 3) ls (.double r :: rest))) : W p l e R s m args below meth c H locs cells slots Q (F0 m pc ls st0) := by
  intro T hT X
  rcases hr T hT X with ⟨v, st₀, t, T', L, h0, X', hL, e1, e2, ⟨⟨r, u, hv, hp, hb⟩, hF⟩, st⟩ | ⟨q, st₀, t, T', L, E, ce, h0, X', hL, e1, e2, ⟨u, hp, hb, hF⟩, hce, hcv, hcl, st⟩
  · cases hv
    obtain ⟨k1, k2, k3⟩ := vx_keep h0 e1 hS hA hf hL hF
    obtain ⟨t2, a1, b1⟩ := kk r u t T'.heap (locs ++ L) e1.symm (by rw [← e2]; exact X'.warmed.alike) hp hb k1 k2 k3 T' rfl X'
    exact ⟨t2, st t2 a1, b1⟩
  · obtain ⟨k1, k2, k3⟩ := vx_keep h0 e1 hS hAX hf hL hF
    obtain ⟨t2, a1, b1⟩ := kx E ce q u t T'.heap (locs ++ L) e1.symm (by rw [← e2]; exact X'.warmed.alike) hp hb k1 k2 k3 (by rw [e1]; exact hce) hcv hcl T' rfl X'
    exact ⟨t2, st.trans a1, b1⟩
theorem vx_callv {S SX : Type} {post : S → Prop} {px : SX → Prop} {B : S → State → Prop} {BX : String → SX → State → Prop} {AX : Nat → Prop} (hr : vx_Run p l e R s m args below meth c H locs cells slots mc ms (F0 m pc ls st0) rest (va_Qv post B A1 a) (vx_X px BX AX) free) (hS : va_S A0 H0 H locs) (hA : ∀ q, q < H.size → A1 q → A0 q) (hf : ∀ q, free q → A0 q) (hAX : ∀ q, q < H.size → AX q → A0 q)
    (kx : ∀ (E : String) (ce : Cell) (q9 : Addr) (u : SX) (t : State) (H1 : Heap) (locs1 : List Loc), t.heap = H1 → s.vm.Alike t.vm → px u → BX E u t → H.size ≤ H1.size → (∀ q : Nat, q < H.size → ¬ AX q → H1[q]? = H[q]?) → va_S A0 H0 H1 locs1 → H1[q9]? = some ce → ce.vm = .none → s.vm.findClass E = some ce.cls → vx_W p l e R s m args below meth c H1 locs1 (cells + mc) (slots + ms) Q (F0 m pc ls rest) q9)
    (kk : ∀ (u : S) (t : State) (H1 : Heap) (locs1 : List Loc), t.heap = H1 → s.vm.Alike t.vm → post u → B u t → H.size ≤ H1.size → (∀ q : Nat, q < H.size → ¬ A1 q → H1[q]? = H[q]?) → va_S A0 H0 H1 locs1 → W p l e R s m args below meth c H1 locs1 (cells + mc) (slots + ms) Q (F0 m (pc + 3) ls (rest))) : W p l e R s m args below meth c H locs cells slots Q (F0 m pc ls st0) := by
  intro T hT X
  rcases hr T hT X with ⟨v, st₀, t, T', L, h0, X', hL, e1, e2, ⟨⟨u, hv, hp, hb⟩, hF⟩, st⟩ | ⟨q, st₀, t, T', L, E, ce, h0, X', hL, e1, e2, ⟨u, hp, hb, hF⟩, hce, hcv, hcl, st⟩
  · cases hv
    obtain ⟨k1, k2, k3⟩ := vx_keep h0 e1 hS hA hf hL hF
    obtain ⟨t2, a1, b1⟩ := kk u t T'.heap (locs ++ L) e1.symm (by rw [← e2]; exact X'.warmed.alike) hp hb k1 k2 k3 T' rfl X'
    exact ⟨t2, st t2 a1, b1⟩
  · obtain ⟨k1, k2, k3⟩ := vx_keep h0 e1 hS hAX hf hL hF
    obtain ⟨t2, a1, b1⟩ := kx E ce q u t T'.heap (locs ++ L) e1.symm (by rw [← e2]; exact X'.warmed.alike) hp hb k1 k2 k3 (by rw [e1]; exact hce) hcv hcl T' rfl X'
    exact ⟨t2, st.trans a1, b1⟩
/-- caught by the row x of this method's table; the rows ahead don't take it -/
theorem vx_catch {own name : String} {E : String} {ce : Cell} {q : Addr} (hown : s.vm.findClass own = some m.cls) (pre : List ExceptionTableEntry) (x : ExceptionTableEntry) (suf : List ExceptionTableEntry) (hsplit : c.exceptionTable.toList = pre ++ x :: suf)
    (hpass : ∀ z ∈ pre, covers z pc = false ∨ (z.catchType ≠ 0 ∧ ∃ nm : String, (Cond.classLink own z.catchType nm).before args s = true ∧ va_Nc E nm s)) (hx : covers x pc = true) (h0 : x.catchType ≠ 0)
    (hlink : (Cond.classLink own x.catchType name).before args s = true) (hcast : (Cond.castable E name).before args s = true) (hcell : H[q]? = some ce) (hv : ce.vm = .none) (hcl : s.vm.findClass E = some ce.cls)
    (kk : W p l e R s m args below meth c H locs cells slots Q (F0 m x.handlerPc ls [.ref q])) : vx_W p l e R s m args below meth c H locs cells slots Q (F0 m pc ls rest) q := by
  intro T hT X
  have hpl : e.platform.magicAccessors = ({} : Platform).magicAccessors := by rw [X.admits.platform]
  obtain ⟨c3, c4, hc3, hc4, hasg⟩ := Cond.castable_spec hcast
  cases Option.some.inj (hc3.symm.trans hcl)
  obtain ⟨c5, hc5, hcl5⟩ := Cond.classLink_spec hown hlink e.platform hpl
  cases Option.some.inj (hc4.symm.trans hc5)
  obtain ⟨vm', X', st⟩ := X.thenCaughtThrough q (g := F0 m pc ls rest) rfl (Steps.refl _) (by rw [hT]; exact hcell) (by rw [hv]; rfl) (by obtain ⟨k9, h9, -⟩ := Vm.findClass_spec hcl; exact ⟨k9, h9⟩) pre x suf hsplit
    (fun z hz => by
      rcases hpass z hz with h | ⟨hz0, nm, hl1, hn1⟩
      · exact Or.inl h
      · obtain ⟨c6, hc6, hcl6⟩ := Cond.classLink_spec hown hl1 e.platform hpl
        obtain ⟨a8, b8, h1, h2, h3⟩ := hn1
        cases Option.some.inj (h1.symm.trans hcl)
        cases Option.some.inj (h2.symm.trans hc6)
        exact Or.inr ⟨hz0, _, hcl6, h3⟩) hx (Or.inr ⟨h0, c4, hcl5, hasg⟩)
  obtain ⟨t, a1, b1⟩ := kk (T.setVm vm') hT X'
  exact ⟨t, st.trans a1, b1⟩
end Rows
section Ends
variable {p : Program} {l : Launch} {e : Env} {R : Room} {s : State} {m : MethodId} {args : Array Value} {below : List Frame} {meth : Method} {c : Code} {H : Heap} {locs : List Loc} {cells slots : Nat} {Q : State → Prop}
variable {mc ms : Nat} {free : Addr → Prop} {A0 A1 : Nat → Prop} {H0 : Heap} {a : Array Value} {ls : Array Slot} {st0 rest : List Value}
variable {Qc : Array Value → State → Outcome → State → Prop} {XC : String → State → State → Prop}
/-- what a body that may throw owes at its end -/
def vx_MQ (below : List Frame) (Qc : Array Value → State → Outcome → State → Prop) (XC : String → State → State → Prop) (a : Array Value) (s : State) (mc ms : Nat) (free : Addr → Prop) : State → Prop := fun t =>
  ∃ o, t.status = .running ∧ Ended t below o ∧ vx_Q Qc XC mc ms free a s o t
theorem vx_ret {g : JFrame} {mc ms : Nat} (k : W p l e R s m args below meth c H locs cells slots (MQ below Qc args s mc ms free) g) : W p l e R s m args below meth c H locs cells slots (vx_MQ below Qc XC args s mc ms free) g := by
  intro T hT X
  obtain ⟨t, a1, o, b1, b2, b3, b4⟩ := k T hT X
  exact ⟨t, a1, o, b1, b2, Or.inl ⟨b3, b4⟩⟩
/-- not caught here: it goes on to the caller -/
theorem vx_widen {g : JFrame} {q : Addr} {k n : Nat} (h1 : cells ≤ k) (h2 : slots ≤ n) (kk : vx_W p l e R s m args below meth c H locs k n Q g q) : vx_W p l e R s m args below meth c H locs cells slots Q g q := fun T hT X => kk T hT (stand_widen X h1 h2)
theorem vx_out {pc : Nat} {E : String} {ce : Cell} {q : Addr} {mc ms : Nat} (hout : ∀ x ∈ c.exceptionTable.toList, covers x pc = false) (hlocks : meth.locks = false) (hcell : H[q]? = some ce) (hv : ce.vm = .none) (hcl : s.vm.findClass E = some ce.cls)
    (hx : ∀ t : State, t.heap = H → s.vm.Alike t.vm → XC E s t) (hf : ∀ z ∈ locs, free z.base) (hc : cells ≤ mc) (hs : slots ≤ ms) :
    vx_W p l e R s m args below meth c H locs cells slots (vx_MQ below Qc XC args s mc ms free) (F0 m pc ls rest) q := by
  intro T hT X
  obtain ⟨st1, hrun, hend, hW, hsm⟩ := X.leaveThrown q (g := F0 m pc ls rest) rfl rfl rfl hout hlocks
  have hcell9 : (T.setFrames (.throwing q :: below)).heap[q]? = some ce := by
    show T.heap[q]? = some ce
    rw [hT]; exact hcell
  exact ⟨_, st1, .threw q, hrun, hend, Or.inr ⟨q, rfl, E, ce, locs, hx _ hT hW.alike, hcell9, hv, hcl, hW, hsm.mono hc hs, hf⟩⟩
theorem vx_frame {U : State} {k n : Nat} (h : s.sameButNew ({ U with vm := s.vm } : State) locs k n) : s.heap.size ≤ U.heap.size ∧ ∀ q : Nat, q < s.heap.size → (∀ z ∈ locs, z.base ≠ q) → U.heap[q]? = s.heap[q]? := by
  obtain ⟨-, h2, -, -, -, h6⟩ := h
  refine ⟨h2, fun q hq hz => ?_⟩
  obtain ⟨c9, e1, e2, e3, e4⟩ := h6 q _ (Array.getElem?_eq_getElem hq)
  have hs : c9.slots = (s.heap[q]).slots := Array.ext_getElem? fun i => e4 i fun hm => hz _ hm rfl
  have h9 : c9 = s.heap[q] := by
    rw [hs] at e2
    exact e2
  have e5 : U.heap[q]? = some c9 := e1
  rw [e5, h9, Array.getElem?_eq_getElem hq]
/-- the words of a throw but the four that speak of the heap -/
def vx_no (w : Cond) : Bool := decide (w ≠ .isRef (.static Bundle.tN "UNASSIGNED_STACK" Bundle.steD)) && decide (w ≠ .isRef (.static Bundle.tN "SUPPRESSED_SENTINEL" Bundle.listD)) && decide (w ≠ .laysStatic Bundle.tN "UNASSIGNED_STACK" Bundle.steD) && decide (w ≠ .laysStatic Bundle.tN "SUPPRESSED_SENTINEL" Bundle.listD)
def vx_at0 (own : String) (ic : Nat) (X : String) (names : List String) : List Cond := (Bundle.ownAtoms0 own ic X names).filter vx_no
def vx_atS (own : String) (ic : Nat) (X : String) (names : List String) : List Cond := (Bundle.ownAtoms own ic X names).filter vx_no
/-- a word that the tables alone decide, or a good one -/
def vx_ot (w : Cond) : Bool := w.onTables || goodWord w
theorem vx_ot_at {args a' : Array Value} {s U : State} {w : Cond} (hW : s.WarmedH U.vm) (hvm : s.vm = U.vm) (hg : vx_ot w = true) (h : w.before args s = true) : w.before a' U = true := by
  simp only [vx_ot, Bool.or_eq_true] at hg
  rcases hg with hg | hg
  · exact va_tabs hg hvm h
  · exact word_at hW (good_of_word hg) h
/-- a list's words: the good ones out of the method's own list, the others by premises of their own -/
theorem vx_hat {args : Array Value} {s : State} {L B : List Cond} (h1 : ∀ w ∈ L.filter goodWord, w.before args s = true) (h2 : ∀ w ∈ L.filter (fun w => !goodWord w), w ∈ B) (h3 : ∀ w ∈ B, w.before args s = true) : ∀ w ∈ L, w.before args s = true := by
  intro w hw
  by_cases g : goodWord w = true
  · exact h1 w (List.mem_filter.mpr ⟨hw, g⟩)
  · refine h3 w (h2 w (List.mem_filter.mpr ⟨hw, ?_⟩))
    show (!goodWord w) = true
    cases hgw : goodWord w
    · rfl
    · exact absurd hgw g
theorem vx_c {args : Array Value} {s : State} {w : Cond} {B : List Cond} (h : w.before args s = true) (t : ∀ w ∈ B, w.before args s = true) : ∀ w' ∈ w :: B, w'.before args s = true := fun w' h' => (List.mem_cons.mp h').elim (fun e => by rw [e]; exact h) (t w')
theorem vx_n {args : Array Value} {s : State} : ∀ w ∈ ([] : List Cond), w.before args s = true := fun _ h => nomatch h
theorem vx_own {args : Array Value} {s : State} {L : List Cond} (h1 : ∀ w ∈ L.filter vx_no, w.before args s = true)
    (hU : (Cond.isRef (.static Bundle.tN "UNASSIGNED_STACK" Bundle.steD)).before args s = true) (hN : (Cond.isRef (.static Bundle.tN "SUPPRESSED_SENTINEL" Bundle.listD)).before args s = true)
    (lU : (Cond.laysStatic Bundle.tN "UNASSIGNED_STACK" Bundle.steD).before args s = true) (lN : (Cond.laysStatic Bundle.tN "SUPPRESSED_SENTINEL" Bundle.listD).before args s = true) : ∀ w ∈ L, w.before args s = true := by
  intro w hw
  by_cases e1 : w = .isRef (.static Bundle.tN "UNASSIGNED_STACK" Bundle.steD)
  · rw [e1]; exact hU
  · by_cases e2 : w = .isRef (.static Bundle.tN "SUPPRESSED_SENTINEL" Bundle.listD)
    · rw [e2]; exact hN
    · by_cases e3 : w = .laysStatic Bundle.tN "UNASSIGNED_STACK" Bundle.steD
      · rw [e3]; exact lU
      · by_cases e4 : w = .laysStatic Bundle.tN "SUPPRESSED_SENTINEL" Bundle.listD
        · rw [e4]; exact lN
        · exact h1 w (List.mem_filter.mpr ⟨hw, by unfold vx_no; rw [decide_eq_true e1, decide_eq_true e2, decide_eq_true e3, decide_eq_true e4]; rfl⟩)
/-- where a static field lies, its class's statics cell in H -/
def vx_L (C n d : String) (A : Nat → Prop) (U : State) (H : Heap) : Prop := ∃ (c : ClassId) (k : Class) (i : Nat) (f : Field) (a : Nat) (cell : Cell), U.vm.findClass C = some c ∧ U.fieldFound? C n d = some (c, k, i, f) ∧ f.isStatic = true ∧ k.statics = some a ∧ H[a]? = some cell ∧ cell.vm.isStatics = true ∧ cell.cls = c ∧ f.slot < cell.slots.size ∧ k.staticTypes[f.slot]? = some f.type ∧ ¬ A a
theorem vx_L.moved {C n d : String} {A : Nat → Prop} {u U : State} {H : Heap} (hvm : u.vm.Alike U.vm) (h : vx_L C n d A u H) : vx_L C n d A U H := by
  obtain ⟨c, k, i, f, a, cell, h1, h2, h3, h4, h5, h6, h7, h8, h9, h10⟩ := h
  obtain ⟨k', hi', he⟩ := State.fieldFound?_setVm hvm h2
  exact ⟨c, k', i, f, a, cell, by rw [hvm.findClass]; exact h1, hi', h3, by rw [he]; exact h4, h5, h6, h7, h8, by rw [he]; exact h9, h10⟩
theorem vx_L.kept {C n d : String} {A : Nat → Prop} {U : State} {H H1 : Heap} (h : vx_L C n d A U H) (hq : ∀ a : Nat, a < H.size → ¬ A a → H1[a]? = H[a]?) : vx_L C n d A U H1 := by
  obtain ⟨c, k, i, f, a, cell, h1, h2, h3, h4, h5, h6, h7, h8, h9, h10⟩ := h
  exact ⟨c, k, i, f, a, cell, h1, h2, h3, h4, by rw [hq a (Array.getElem?_eq_some_iff.mp h5).1 h10]; exact h5, h6, h7, h8, h9, h10⟩
theorem vx_L.narrow {C n d : String} {A B : Nat → Prop} {U : State} {H : Heap} (h : vx_L C n d A U H) (hAB : ∀ q, B q → A q) : vx_L C n d B U H := by
  obtain ⟨c, k, i, f, a, cell, h1, h2, h3, h4, h5, h6, h7, h8, h9, h10⟩ := h
  exact ⟨c, k, i, f, a, cell, h1, h2, h3, h4, h5, h6, h7, h8, h9, fun z => h10 (hAB _ z)⟩
theorem vx_L.word {C n d : String} {A : Nat → Prop} {s : State} {args : Array Value} (h : vx_L C n d A s s.heap) : (Cond.laysStatic C n d).before args s = true := by
  obtain ⟨c, k, i, f, a, cell, h1, h2, h3, h4, h5, h6, h7, h8, h9, -⟩ := h
  show (Cond.laysStatic C n d).holds args s none s [] = true
  exact Cond.laysStatic_of h1 h2 h3 h4 h5 h6 h7 h8 h9
/-- .. and what it holds: null or some reference -/
def vx_Zq (C n d : String) (A : Nat → Prop) (U : State) (H : Heap) : Prop := va_Zq C n d A U H ∧ vx_L C n d A U H
theorem vx_Zq.moved {C n d : String} {A : Nat → Prop} {u U : State} {H : Heap} (hvm : u.vm.Alike U.vm) (h : vx_Zq C n d A u H) : vx_Zq C n d A U H := ⟨va_Zq.moved hvm h.1, vx_L.moved hvm h.2⟩
theorem vx_Zq.kept {C n d : String} {A : Nat → Prop} {U : State} {H H1 : Heap} (h : vx_Zq C n d A U H) (hq : ∀ a : Nat, a < H.size → ¬ A a → H1[a]? = H[a]?) : vx_Zq C n d A U H1 := ⟨va_Zq.kept h.1 hq, vx_L.kept h.2 hq⟩
theorem vx_Zq.narrow {C n d : String} {A B : Nat → Prop} {U : State} {H : Heap} (h : vx_Zq C n d A U H) (hAB : ∀ q, B q → A q) : vx_Zq C n d B U H := ⟨va_Zq.narrow h.1 hAB, vx_L.narrow h.2 hAB⟩
theorem vx_Zqof {args : Array Value} {s : State} {C n d : String} {A : Nat → Prop} (hl : (Cond.laysStatic C n d).before args s = true) (hini : (Cond.initialized C).before args s = true) (h : (Cond.isRef (.static C n d)).before args s = true) (hA : ∀ a : Nat, a < s.heap.size → ¬ A a) : vx_Zq C n d A s s.heap := by
  refine ⟨va_Zqof hl hini h hA, ?_⟩
  obtain ⟨c, k, i, f, a, cell, h1, h2, h3, h4, h5, h6, h7, h8, h9⟩ := Cond.laysStatic_spec hl
  exact ⟨c, k, i, f, a, cell, h1, h2, h3, h4, h5, h6, h7, h8, h9, hA a (Array.getElem?_eq_some_iff.mp h5).1⟩
theorem vx_isRef {C n d : String} {v : Value} {A : Nat → Prop} {s : State} {args : Array Value} (h : va_Z C n d v A s s.heap) (hv : v.isRef = true) : (Cond.isRef (.static C n d)).before args s = true := by
  obtain ⟨cf, kf, fi, f, a, cell, h1, h2, h3, h4, h5, h6, h7, -⟩ := h
  have he : (Term.static C n d).eval args s none [] s = some v := by
    simp [Term.eval, State.fieldNamed?, h1, h2, h4, h5, h6, h7]
  simp only [Cond.before, Cond.holds, Cond.value, he]
  cases v <;> simp_all [Value.isRef]
theorem vx_isRefq {C n d : String} {A : Nat → Prop} {s : State} {args : Array Value} (h : va_Zq C n d A s s.heap) : (Cond.isRef (.static C n d)).before args s = true := by
  rcases h with h | ⟨t, h⟩
  · exact vx_isRef h rfl
  · exact vx_isRef h rfl
/-- the same frame, seen from here: as if the method were called anew in this heap -/
theorem vx_rebase {T : State} (X : Stand p l e R s m args below meth c T locs cells slots) {R' : Room} (hf : R'.frames ≤ R.frames) (hl : R'.locals ≤ R.locals) (hc : cells + R'.cells ≤ R.cells) (hs : slots + R'.slots ≤ R.slots) :
    Stand p l e R' ((T.setVm s.vm).setFrames (.invoking m args :: below)) m args below meth c T [] 0 0 := by
  have htop : (T.setVm s.vm).topJava?.isSome := X.here.top
  have hF : ((T.setVm s.vm).setFrames (.invoking m args :: below)).frames = .invoking m args :: below := State.frames_setFrames _ (State.cur_lt_of_top htop)
  obtain ⟨g₀, hg0⟩ := Option.isSome_iff_exists.mp htop
  obtain ⟨r, hr⟩ := State.topJava?_eq_some.mp hg0
  have hl9 : e.platform.stackLimits (T.setVm s.vm).me = e.platform.stackLimits s.me := X.limits
  have hb9 : (T.setVm s.vm).me.stackBytes = s.me.stackBytes := X.bytes
  refine ⟨X.admits, X.cas, X.clock, hF, ?_, X.hears, X.method, X.code, X.here, X.tail, X.warmed, ?_, ?_, ?_⟩
  · have h := X.room
    have hU : ((T.setVm s.vm).setFrames (.invoking m args :: below)).localsInUse = s.localsInUse := by
      rw [State.localsInUse_invoking hF (meth := meth) (c := c) X.method X.code, State.localsInUse_invoking X.frames X.method X.code]
    simp only [State.hasRoom, Bool.and_eq_true, decide_eq_true_eq] at h ⊢
    obtain ⟨⟨⟨⟨h1, h2, h3, h4, h5, h6⟩, h7⟩, h8⟩, h9⟩ := h
    rw [X.frames, List.length_cons] at h2 h3
    have q1 := X.heapSize
    have q2 := X.used
    simp only [hF, hU, List.length_cons, State.stackLimits_setFrames, State.stackBytes_setFrames, hl9, hb9]
    refine ⟨⟨⟨⟨by omega, by omega, by omega, by omega, by omega, h6⟩, ?_⟩, ?_⟩, X.book⟩
    · show T.heap.size + R'.cells ≤ e.platform.maxCells
      omega
    · show T.slotsUsed + R'.slots ≤ e.platform.maxSlots
      omega
  · rw [State.stackLimits_setFrames]; rfl
  · rw [State.stackBytes_setFrames]; rfl
  · refine ⟨?_, Nat.le_refl _, Nat.le_refl _, ?_, ?_, fun a c9 h9 => ⟨c9, h9, rfl, rfl, fun _ _ => rfl⟩⟩
    · obtain ⟨t, ht, -⟩ := State.frames_cons hr
      show T.setVm s.vm = { ((T.setVm s.vm).setFrames (.invoking m args :: below)).setFrames (T.setVm s.vm).frames with heap := T.heap, slotsUsed := T.slotsUsed }
      rw [State.setFrames_setFrames, State.setFrames_self ht]
      rfl
    · show T.slotsUsed = T.slotsUsed + ((T.heap.toList.drop T.heap.size).map (·.slots.size)).sum
      rw [List.drop_eq_nil_of_le (Nat.le_of_eq Array.length_toList)]
      rfl
    · show ((T.heap.toList.drop T.heap.size).map (·.slots.size)).sum ≤ 0
      rw [List.drop_eq_nil_of_le (Nat.le_of_eq Array.length_toList)]
      exact Nat.le_refl _
/-- 'throw new E()': new; dup; invokespecial; athrow -/
theorem vx_throw0 {cc : ByteArray} {pc : Nat} (hexec : p.tables.exec = Jvm.exec) (hb : c.code = cc) (hl : l.stackTraces = false) {own cls : String} {names : List String} {ik ic mc ms : Nat} {A : Nat → Prop}
    (hown : s.vm.findClass own = some m.cls) (hcls : Bundle.fit cls = true) (hnames : ∀ n ∈ names, Bundle.fit n = true)
    (hk : (Cond.classLink own ik cls).before args s = true) (hini : (Cond.initialized cls).before args s = true) (hat : ∀ w ∈ vx_at0 own ic cls names, w.before args s = true)
    (hgood : ∀ w ∈ Cond.classLink own ik cls :: Cond.initialized cls :: vx_at0 own ic cls names, vx_ot w = true)
    (hU : vx_Zq Bundle.tN "UNASSIGNED_STACK" Bundle.steD A s s.heap) (hN : vx_Zq Bundle.tN "SUPPRESSED_SENTINEL" Bundle.listD A s s.heap) (hS : va_S A s.heap H locs) (hsize : ls.size = c.maxLocals)
    (d0 : decode cc pc = .ok (.new ik, 3)) (d3 : decode cc (pc + 3) = .ok (.dup, 1)) (d4 : decode cc (pc + 4) = .ok (.invokespecial ic, 3)) (d7 : decode cc (pc + 7) = .ok (.athrow, 1))
    (hout : ∀ x ∈ c.exceptionTable.toList, covers x (pc + 7) = false)
    (hRframes : names.length + 3 < R.frames) (hRlocals : (rest.map fun v => v.category).sum + (13 * (names.length + 1) + 42) ≤ R.locals) (hRcells : cells + 1 ≤ R.cells) (hRslots : slots + 6 ≤ R.slots) (hlocks : meth.locks = false)
    (hx : ∀ t : State, s.vm.Alike t.vm → H.size ≤ t.heap.size → (∀ q : Nat, q < H.size → t.heap[q]? = H[q]?) → XC cls s t)
    (hf : ∀ z ∈ locs, free z.base) (hc : cells + 1 ≤ mc) (hs : slots + 6 ≤ ms) :
    W p l e R s m args below meth c H locs cells slots (vx_MQ below Qc XC args s mc ms free) (F0 m pc ls rest) := by
  intro T hT X
  have htr : e.platform.stackTraces = false := (show e.platform.stackTraces = l.stackTraces by rw [X.admits.platform]).trans hl
  have Y := vx_rebase X (R' := { frames := R.frames, locals := R.locals, cells := 1, slots := 6 }) (Nat.le_refl _) (Nat.le_refl _) hRcells hRslots
  obtain ⟨s', hA⟩ : ∃ z, z = (T.setVm s.vm).setFrames (.invoking m args :: below) := ⟨_, rfl⟩
  rw [← hA] at Y
  have hvm : s'.vm = s.vm := by rw [hA]; rfl
  have hhp : s'.heap = H := by rw [hA]; exact hT
  have hW0 : s.WarmedH s'.vm := by rw [hvm]; exact State.WarmedH.refl s
  have hat' : ∀ w ∈ vx_at0 own ic cls names, w.before args s' = true := fun w hw => vx_ot_at hW0 hvm.symm (hgood w (List.mem_cons_of_mem _ (List.mem_cons_of_mem _ hw))) (hat w hw)
  have hk' : (Cond.classLink own ik cls).before args s' = true := vx_ot_at hW0 hvm.symm (hgood _ List.mem_cons_self) hk
  have hini' : (Cond.initialized cls).before args s' = true := vx_ot_at hW0 hvm.symm (hgood _ (List.mem_cons_of_mem _ List.mem_cons_self)) hini
  have hU' : vx_Zq Bundle.tN "UNASSIGNED_STACK" Bundle.steD A s' s'.heap := by rw [hhp]; exact vx_Zq.moved hW0.alike (hU.kept hS.2.1)
  have hN' : vx_Zq Bundle.tN "SUPPRESSED_SENTINEL" Bundle.listD A s' s'.heap := by rw [hhp]; exact vx_Zq.moved hW0.alike (hN.kept hS.2.1)
  have h : ∀ w ∈ Bundle.ownAtoms0 own ic cls names, w.before args s' = true := vx_own hat' (vx_isRefq hU'.1) (vx_isRefq hN'.1) hU'.2.word hN'.2.word
  have hown' : s'.vm.findClass own = some m.cls := by rw [hvm]; exact hown
  have hins : (Cond.instantiable cls 6).before args s' = true := h _ (by simp [Bundle.ownAtoms0])
  obtain ⟨vm₁, cX, kX, hfX, hkX, -, -, X₁, st1⟩ := Y.newCold hexec (own := own) (C := cls) (index := ik) (n := 6) hown' hk' hins hini'
    (g := F0 m pc ls rest) rfl (by rw [hb]; exact d0) (Nat.le_refl _) (Nat.le_refl _)
  generalize hT1 : (T.setVm vm₁).pushCell { cls := cX, slots := kX.instanceTypes.map defaultValue, vm := .none } = T1 at X₁ st1
  have hcat : (Value.ref T.heap.size).category = 1 := rfl
  have hcellA : T1.heap[T.heap.size]? = some (freshCell cX kX) := by rw [← hT1]; exact State.heap_pushCell_size _ _
  have d3' : decode c.code (pc + 3) = .ok (.dup, 1) := by rw [hb]; exact d3
  obtain ⟨U, hsteps, hrun, hend, hW, hsame, ce, hce, hO⟩ := X₁.ctorThrow0 hexec htr (own := own) (cls := cls) (names := names) (ic := ic) hown' hcls hnames h (fun x hx => nomatch hx) hfX hkX hcellA (by rw [hhp, hT]; exact Nat.le_refl _)
    (g := { method := m, pc := pc + 4, locals := ls, stack := .ref T.heap.size :: .ref T.heap.size :: rest, locked := none }) rfl hsize rfl rfl (rest := rest) rfl
    (by rw [hb]; exact d4) (by rw [hb]; exact d7) hout hRframes (by simp only [List.map_cons, List.sum_cons, hcat]; omega) hlocks
  obtain ⟨f1, f2⟩ := vx_frame hsame
  rw [hhp] at f1 f2
  have hWs : s.WarmedH U.vm := State.WarmedH.trans hW0 hW
  have hcl : s.vm.findClass cls = some ce.cls := by
    have h9 := hO.cls
    rw [hvm] at h9
    exact h9
  have hall : s.sameButNew ({ U with vm := s.vm } : State) locs mc ms := by
    subst hA
    obtain ⟨e1, e2⟩ := hsame
    rw [State.setFrames_setFrames] at e1
    have h2 : (T.setVm s.vm).sameButNew ({ U with vm := s.vm } : State) [] (0 + 1) (0 + 6) := ⟨e1, e2⟩
    have h3 := X.same.trans h2
    rw [List.append_nil] at h3
    exact h3.mono hc hs
  refine ⟨U, ?_, .threw T.heap.size, hrun, hend, Or.inr ⟨T.heap.size, rfl, cls, ce, locs, hx U hWs.alike f1 (fun q hq => f2 q hq (fun z hz => nomatch hz)), hce, hO.vm, hcl, hWs, hall, hf⟩⟩
  refine st1 _ ?_
  show Steps p.tables e below (T1.setTop { method := m, pc := pc + 3, locals := ls, stack := .ref T.heap.size :: rest, locked := none }) _
  jvm_step X₁.here [X₁.here.top, hexec, d3', Value.category]
  exact hsteps
/-- 'throw new E("text")': new; dup; ldc; invokespecial; athrow -/
theorem vx_throwS {cc : ByteArray} {pc : Nat} (hexec : p.tables.exec = Jvm.exec) (hb : c.code = cc) (hl : l.stackTraces = false) {own cls text : String} {names : List String} {ik is ic mc ms sa : Nat} {A : Nat → Prop}
    (hown : s.vm.findClass own = some m.cls) (hcls : Bundle.fit cls = true) (hnames : ∀ n ∈ names, Bundle.fit n = true)
    (hk : (Cond.classLink own ik cls).before args s = true) (hini : (Cond.initialized cls).before args s = true) (hstr : vk_R own is text sa s) (hat : ∀ w ∈ vx_atS own ic cls names, w.before args s = true)
    (hgood : ∀ w ∈ Cond.classLink own ik cls :: Cond.initialized cls :: vx_atS own ic cls names, vx_ot w = true)
    (hU : vx_Zq Bundle.tN "UNASSIGNED_STACK" Bundle.steD A s s.heap) (hN : vx_Zq Bundle.tN "SUPPRESSED_SENTINEL" Bundle.listD A s s.heap) (hS : va_S A s.heap H locs) (hsize : ls.size = c.maxLocals)
    (d0 : decode cc pc = .ok (.new ik, 3)) (d3 : decode cc (pc + 3) = .ok (.dup, 1)) (d4 : decode cc (pc + 4) = .ok (.ldc is, 2)) (d6 : decode cc (pc + 6) = .ok (.invokespecial ic, 3)) (d9 : decode cc (pc + 9) = .ok (.athrow, 1))
    (hout : ∀ x ∈ c.exceptionTable.toList, covers x (pc + 9) = false)
    (hRframes : names.length + 3 < R.frames) (hRlocals : (rest.map fun v => v.category).sum + (13 * (names.length + 1) + 43) ≤ R.locals) (hRcells : cells + 1 ≤ R.cells) (hRslots : slots + 6 ≤ R.slots) (hlocks : meth.locks = false)
    (hx : ∀ t : State, s.vm.Alike t.vm → H.size ≤ t.heap.size → (∀ q : Nat, q < H.size → t.heap[q]? = H[q]?) → XC cls s t)
    (hf : ∀ z ∈ locs, free z.base) (hc : cells + 1 ≤ mc) (hs : slots + 6 ≤ ms) :
    W p l e R s m args below meth c H locs cells slots (vx_MQ below Qc XC args s mc ms free) (F0 m pc ls rest) := by
  intro T hT X
  have htr : e.platform.stackTraces = false := (show e.platform.stackTraces = l.stackTraces by rw [X.admits.platform]).trans hl
  have Y := vx_rebase X (R' := { frames := R.frames, locals := R.locals, cells := 1, slots := 6 }) (Nat.le_refl _) (Nat.le_refl _) hRcells hRslots
  obtain ⟨s', hA⟩ : ∃ z, z = (T.setVm s.vm).setFrames (.invoking m args :: below) := ⟨_, rfl⟩
  rw [← hA] at Y
  have hvm : s'.vm = s.vm := by rw [hA]; rfl
  have hhp : s'.heap = H := by rw [hA]; exact hT
  have hW0 : s.WarmedH s'.vm := by rw [hvm]; exact State.WarmedH.refl s
  have hat' : ∀ w ∈ vx_atS own ic cls names, w.before args s' = true := fun w hw => vx_ot_at hW0 hvm.symm (hgood w (List.mem_cons_of_mem _ (List.mem_cons_of_mem _ hw))) (hat w hw)
  have hk' : (Cond.classLink own ik cls).before args s' = true := vx_ot_at hW0 hvm.symm (hgood _ List.mem_cons_self) hk
  have hini' : (Cond.initialized cls).before args s' = true := vx_ot_at hW0 hvm.symm (hgood _ (List.mem_cons_of_mem _ List.mem_cons_self)) hini
  have hU' : vx_Zq Bundle.tN "UNASSIGNED_STACK" Bundle.steD A s' s'.heap := by rw [hhp]; exact vx_Zq.moved hW0.alike (hU.kept hS.2.1)
  have hN' : vx_Zq Bundle.tN "SUPPRESSED_SENTINEL" Bundle.listD A s' s'.heap := by rw [hhp]; exact vx_Zq.moved hW0.alike (hN.kept hS.2.1)
  have h : ∀ w ∈ Bundle.ownAtoms own ic cls names, w.before args s' = true := vx_own hat' (vx_isRefq hU'.1) (vx_isRefq hN'.1) hU'.2.word hN'.2.word
  have hown' : s'.vm.findClass own = some m.cls := by rw [hvm]; exact hown
  have hins : (Cond.instantiable cls 6).before args s' = true := h _ (by simp [Bundle.ownAtoms])
  obtain ⟨vm₁, cX, kX, hfX, hkX, -, -, X₁, st1⟩ := Y.newCold hexec (own := own) (C := cls) (index := ik) (n := 6) hown' hk' hins hini'
    (g := F0 m pc ls rest) rfl (by rw [hb]; exact d0) (Nat.le_refl _) (Nat.le_refl _)
  generalize hT1 : (T.setVm vm₁).pushCell { cls := cX, slots := kX.instanceTypes.map defaultValue, vm := .none } = T1 at X₁ st1
  have hcat : (Value.ref T.heap.size).category = 1 := rfl
  have hcellA : T1.heap[T.heap.size]? = some (freshCell cX kX) := by rw [← hT1]; exact State.heap_pushCell_size _ _
  have d3' : decode c.code (pc + 3) = .ok (.dup, 1) := by rw [hb]; exact d3
  have d4' : decode c.code (pc + 4) = .ok (.ldc is, 2) := by rw [hb]; exact d4
  have hstr' : vk_R own is text sa s' := vk_R.warm hW0 hstr
  obtain ⟨U, hsteps, hrun, hend, hW, hsame, ce, hce, hO⟩ := X₁.ctorThrowS hexec htr (own := own) (cls := cls) (names := names) (ic := ic) hown' hcls hnames h (fun x hx => nomatch hx) hfX hkX hcellA (by rw [hhp, hT]; exact Nat.le_refl _) (msg := .ref sa) rfl
    (g := { method := m, pc := pc + 6, locals := ls, stack := .ref sa :: .ref T.heap.size :: .ref T.heap.size :: rest, locked := none }) rfl hsize rfl rfl (rest := rest) rfl
    (by rw [hb]; exact d6) (by rw [hb]; exact d9) hout hRframes (by simp only [List.map_cons, List.sum_cons, hcat]; omega) hlocks
  obtain ⟨f1, f2⟩ := vx_frame hsame
  rw [hhp] at f1 f2
  have hWs : s.WarmedH U.vm := State.WarmedH.trans hW0 hW
  have hcl : s.vm.findClass cls = some ce.cls := by
    have h9 := hO.cls
    rw [hvm] at h9
    exact h9
  have hall : s.sameButNew ({ U with vm := s.vm } : State) locs mc ms := by
    subst hA
    obtain ⟨e1, e2⟩ := hsame
    rw [State.setFrames_setFrames] at e1
    have h2 : (T.setVm s.vm).sameButNew ({ U with vm := s.vm } : State) [] (0 + 1) (0 + 6) := ⟨e1, e2⟩
    have h3 := X.same.trans h2
    rw [List.append_nil] at h3
    exact h3.mono hc hs
  refine ⟨U, ?_, .threw T.heap.size, hrun, hend, Or.inr ⟨T.heap.size, rfl, cls, ce, locs, hx U hWs.alike f1 (fun q hq => f2 q hq (fun z hz => nomatch hz)), hce, hO.vm, hcl, hWs, hall, hf⟩⟩
  refine st1 _ ?_
  show Steps p.tables e below (T1.setTop { method := m, pc := pc + 3, locals := ls, stack := .ref T.heap.size :: rest, locked := none }) _
  jvm_step X₁.here [X₁.here.top, hexec, d3', Value.category]
  exact X₁.ldcString hexec (own := own) (text := text) (index := is) (a := sa) hown' hstr'.1 hstr'.2
    (g := { method := m, pc := pc + 4, locals := ls, stack := .ref T.heap.size :: .ref T.heap.size :: rest, locked := none }) rfl d4' _ hsteps
/-- 'throw new E("text")', the text by a wide index -/
theorem vx_throwSW {cc : ByteArray} {pc : Nat} (hexec : p.tables.exec = Jvm.exec) (hb : c.code = cc) (hl : l.stackTraces = false) {own cls text : String} {names : List String} {ik is ic mc ms sa : Nat} {A : Nat → Prop}
    (hown : s.vm.findClass own = some m.cls) (hcls : Bundle.fit cls = true) (hnames : ∀ n ∈ names, Bundle.fit n = true)
    (hk : (Cond.classLink own ik cls).before args s = true) (hini : (Cond.initialized cls).before args s = true) (hstr : vk_R own is text sa s) (hat : ∀ w ∈ vx_atS own ic cls names, w.before args s = true)
    (hgood : ∀ w ∈ Cond.classLink own ik cls :: Cond.initialized cls :: vx_atS own ic cls names, vx_ot w = true)
    (hU : vx_Zq Bundle.tN "UNASSIGNED_STACK" Bundle.steD A s s.heap) (hN : vx_Zq Bundle.tN "SUPPRESSED_SENTINEL" Bundle.listD A s s.heap) (hS : va_S A s.heap H locs) (hsize : ls.size = c.maxLocals)
    (d0 : decode cc pc = .ok (.new ik, 3)) (d3 : decode cc (pc + 3) = .ok (.dup, 1)) (d4 : decode cc (pc + 4) = .ok (.ldc_w is, 3)) (d7 : decode cc (pc + 7) = .ok (.invokespecial ic, 3)) (d10 : decode cc (pc + 10) = .ok (.athrow, 1))
    (hout : ∀ x ∈ c.exceptionTable.toList, covers x (pc + 10) = false)
    (hRframes : names.length + 3 < R.frames) (hRlocals : (rest.map fun v => v.category).sum + (13 * (names.length + 1) + 43) ≤ R.locals) (hRcells : cells + 1 ≤ R.cells) (hRslots : slots + 6 ≤ R.slots) (hlocks : meth.locks = false)
    (hx : ∀ t : State, s.vm.Alike t.vm → H.size ≤ t.heap.size → (∀ q : Nat, q < H.size → t.heap[q]? = H[q]?) → XC cls s t)
    (hf : ∀ z ∈ locs, free z.base) (hc : cells + 1 ≤ mc) (hs : slots + 6 ≤ ms) :
    W p l e R s m args below meth c H locs cells slots (vx_MQ below Qc XC args s mc ms free) (F0 m pc ls rest) := by
  intro T hT X
  have htr : e.platform.stackTraces = false := (show e.platform.stackTraces = l.stackTraces by rw [X.admits.platform]).trans hl
  have Y := vx_rebase X (R' := { frames := R.frames, locals := R.locals, cells := 1, slots := 6 }) (Nat.le_refl _) (Nat.le_refl _) hRcells hRslots
  obtain ⟨s', hA⟩ : ∃ z, z = (T.setVm s.vm).setFrames (.invoking m args :: below) := ⟨_, rfl⟩
  rw [← hA] at Y
  have hvm : s'.vm = s.vm := by rw [hA]; rfl
  have hhp : s'.heap = H := by rw [hA]; exact hT
  have hW0 : s.WarmedH s'.vm := by rw [hvm]; exact State.WarmedH.refl s
  have hat' : ∀ w ∈ vx_atS own ic cls names, w.before args s' = true := fun w hw => vx_ot_at hW0 hvm.symm (hgood w (List.mem_cons_of_mem _ (List.mem_cons_of_mem _ hw))) (hat w hw)
  have hk' : (Cond.classLink own ik cls).before args s' = true := vx_ot_at hW0 hvm.symm (hgood _ List.mem_cons_self) hk
  have hini' : (Cond.initialized cls).before args s' = true := vx_ot_at hW0 hvm.symm (hgood _ (List.mem_cons_of_mem _ List.mem_cons_self)) hini
  have hU' : vx_Zq Bundle.tN "UNASSIGNED_STACK" Bundle.steD A s' s'.heap := by rw [hhp]; exact vx_Zq.moved hW0.alike (hU.kept hS.2.1)
  have hN' : vx_Zq Bundle.tN "SUPPRESSED_SENTINEL" Bundle.listD A s' s'.heap := by rw [hhp]; exact vx_Zq.moved hW0.alike (hN.kept hS.2.1)
  have h : ∀ w ∈ Bundle.ownAtoms own ic cls names, w.before args s' = true := vx_own hat' (vx_isRefq hU'.1) (vx_isRefq hN'.1) hU'.2.word hN'.2.word
  have hown' : s'.vm.findClass own = some m.cls := by rw [hvm]; exact hown
  have hins : (Cond.instantiable cls 6).before args s' = true := h _ (by simp [Bundle.ownAtoms])
  obtain ⟨vm₁, cX, kX, hfX, hkX, -, -, X₁, st1⟩ := Y.newCold hexec (own := own) (C := cls) (index := ik) (n := 6) hown' hk' hins hini'
    (g := F0 m pc ls rest) rfl (by rw [hb]; exact d0) (Nat.le_refl _) (Nat.le_refl _)
  generalize hT1 : (T.setVm vm₁).pushCell { cls := cX, slots := kX.instanceTypes.map defaultValue, vm := .none } = T1 at X₁ st1
  have hcat : (Value.ref T.heap.size).category = 1 := rfl
  have hcellA : T1.heap[T.heap.size]? = some (freshCell cX kX) := by rw [← hT1]; exact State.heap_pushCell_size _ _
  have d3' : decode c.code (pc + 3) = .ok (.dup, 1) := by rw [hb]; exact d3
  have d4' : decode c.code (pc + 4) = .ok (.ldc_w is, 3) := by rw [hb]; exact d4
  have hstr' : vk_R own is text sa s' := vk_R.warm hW0 hstr
  obtain ⟨U, hsteps, hrun, hend, hW, hsame, ce, hce, hO⟩ := X₁.ctorThrowS hexec htr (own := own) (cls := cls) (names := names) (ic := ic) hown' hcls hnames h (fun x hx => nomatch hx) hfX hkX hcellA (by rw [hhp, hT]; exact Nat.le_refl _) (msg := .ref sa) rfl
    (g := { method := m, pc := pc + 7, locals := ls, stack := .ref sa :: .ref T.heap.size :: .ref T.heap.size :: rest, locked := none }) rfl hsize rfl rfl (rest := rest) rfl
    (by rw [hb]; exact d7) (by rw [hb]; exact d10) hout hRframes (by simp only [List.map_cons, List.sum_cons, hcat]; omega) hlocks
  obtain ⟨f1, f2⟩ := vx_frame hsame
  rw [hhp] at f1 f2
  have hWs : s.WarmedH U.vm := State.WarmedH.trans hW0 hW
  have hcl : s.vm.findClass cls = some ce.cls := by
    have h9 := hO.cls
    rw [hvm] at h9
    exact h9
  have hall : s.sameButNew ({ U with vm := s.vm } : State) locs mc ms := by
    subst hA
    obtain ⟨e1, e2⟩ := hsame
    rw [State.setFrames_setFrames] at e1
    have h2 : (T.setVm s.vm).sameButNew ({ U with vm := s.vm } : State) [] (0 + 1) (0 + 6) := ⟨e1, e2⟩
    have h3 := X.same.trans h2
    rw [List.append_nil] at h3
    exact h3.mono hc hs
  refine ⟨U, ?_, .threw T.heap.size, hrun, hend, Or.inr ⟨T.heap.size, rfl, cls, ce, locs, hx U hWs.alike f1 (fun q hq => f2 q hq (fun z hz => nomatch hz)), hce, hO.vm, hcl, hWs, hall, hf⟩⟩
  refine st1 _ ?_
  show Steps p.tables e below (T1.setTop { method := m, pc := pc + 3, locals := ls, stack := .ref T.heap.size :: rest, locked := none }) _
  jvm_step X₁.here [X₁.here.top, hexec, d3', Value.category]
  exact X₁.ldcStringW hexec (own := own) (text := text) (index := is) (a := sa) hown' hstr'.1 hstr'.2
    (g := { method := m, pc := pc + 4, locals := ls, stack := .ref T.heap.size :: .ref T.heap.size :: rest, locked := none }) rfl d4' _ hsteps
end Ends
section Bodies
variable {l : Launch}
theorem vx_ofW {y : MethodName} {ws ws' : List Cond} {rm : Room} {Pc : Array Value → State → Prop} {Qc : Array Value → State → Outcome → State → Prop} {XC : String → State → State → Prop} {mc ms : Nat} {free : Addr → Prop} {cc : ByteArray} {maxL : Nat} {ret : Option FieldType}
    (hy : plainName y.cls = true) (hw : ws = Cond.code y cc maxL ret :: ws')
    (body : ∀ p e s m args below meth c s₁, BodyLoose p l y (headSpec ws rm) cc maxL ret e s m args below meth c s₁ → c.maxLocals = maxL → (∀ x ∈ c.exceptionTable.toList, False) → Pc args s →
      W p l e (headSpec ws rm).room s m args below meth c s.heap [] 0 0 (vx_MQ below Qc XC args s mc ms free) (entryFrame m args maxL)) : vx_Met l y ws rm Pc Qc XC mc ms free := by
  refine MetFree.of_bodyS (code := cc) (maxLocals := maxL) (ret := ret) hy ?_ ?_
  · intro args s m h hn
    obtain ⟨meth, c, h1, h2, h3, h4, h5, h6, -, -⟩ := Cond.code_spec hn (atoms_spec (ws := ws) h _ (by rw [hw]; exact List.mem_cons_self))
    exact ⟨meth, c, h1, h2, h3, h4, h5, h6⟩
  · intro p e s m args below meth c s₁ B hml hP _
    have hh0 : s₁.heap = s.heap := by rw [B.state]; rfl
    have ht : ∀ x ∈ c.exceptionTable.toList, False := by
      obtain ⟨meth9, c9, h1, h2, -, -, -, -, h7, -⟩ := Cond.code_spec B.named (atoms_spec (ws := ws) B.pre _ (by rw [hw]; exact List.mem_cons_self))
      cases Option.some.inj (h1.symm.trans B.method)
      cases Option.some.inj (h2.symm.trans (Stand.of_body B).code)
      intro x hx
      rw [Array.isEmpty_iff.mp h7] at hx
      cases hx
    obtain ⟨t, a1, o, b1, b2, b3⟩ := body p e s m args below meth c s₁ B hml ht hP s₁ hh0 (Stand.of_body B)
    exact ⟨t, o, a1, b1, b2, b3⟩
/-- the table of a body with handlers -/
theorem vx_table {p : Program} {x y : MethodName} {S : Spec} {cc bytes : ByteArray} {maxL maxL' : Nat} {ret ret' : Option FieldType} {e : Env} {s s₁ : State} {m : MethodId} {args : Array Value} {below : List Frame} {meth : Method} {c : Code} {hh : List (Nat × Nat × Nat × Nat)}
    (B : BodyLoose p l y S cc maxL ret e s m args below meth c s₁) (h : (Cond.codeWith y bytes maxL' ret' hh).before args s = true) : c.exceptionTable.toList = tableOf hh := by
  obtain ⟨m9, meth9, c9, hn9, h1, h2, -, -, h6, -⟩ := Cond.codeWith_spec h
  cases Option.some.inj (hn9.symm.trans B.named)
  cases Option.some.inj (h1.symm.trans B.method)
  cases Option.some.inj (h2.symm.trans (Stand.of_body B).code)
  rw [← h6, table_eq]
end Bodies
end VXA
/-! ===== END ===== -/
/-! ===== BEGIN a static call of a method with an exception table ===== -/
section VXS
variable {p : Program} {l : Launch} {e : Env} {R : Room} {s : State} {m : MethodId} {args : Array Value} {below : List Frame} {meth : Method} {c : Code} {T : State} {H : Heap} {locs : List Loc} {cells slots : Nat}
abbrev vx_CSW (R : Room) (s : State) (args : Array Value) (own : String) (index : Nat) (y : MethodName) (bytes : ByteArray) (maxL : Nat) (ret : Option FieldType) (hh : List (Nat × Nat × Nat × Nat)) (ws : List Cond) (rm : Room) (mc ms n : Nat) : Prop :=
  (rm.cells = mc ∧ rm.slots = ms ∧ rm.frames + 1 ≤ R.frames ∧ 8 + (maxL + 11) + rm.locals ≤ R.locals ∧ (∀ w ∈ ws, ∀ (a' : Array Value) (U : State), s.WarmedH U.vm → w.before a' U = true) ∧ Cond.codeWith y bytes maxL ret hh ∈ ws) ∧
  (Cond.codeWith y bytes maxL ret hh).before args s = true ∧ (Cond.initialized y.cls).before args s = true ∧ (y.cls ≠ "java/lang/invoke/MethodHandle" ∧ y.cls ≠ "java/lang/invoke/VarHandle") ∧
  (∀ sig, parseMethodDescriptor y.desc = some sig → n = sig.parameters.length) ∧ (Cond.methodLink own index y).before args s = true ∧ (Cond.static y).before args s = true
theorem vx_cwSW {own : String} {index maxL mc ms : Nat} {y : MethodName} {bytes : ByteArray} {ret : Option FieldType} {hh : List (Nat × Nat × Nat × Nat)} {Ts ws ws' : List Cond} {rm : Room} (n : Nat) (ht : ∀ w ∈ Ts, w.before args s = true) (hT : GoodIn Ts (va_wsS own index y ws)) (hw : ws = Cond.codeWith y bytes maxL ret hh :: ws') (hrc : rm.cells = mc) (hrs : rm.slots = ms)
    (hd : y.cls ≠ "java/lang/invoke/MethodHandle" ∧ y.cls ≠ "java/lang/invoke/VarHandle" ∧ (parseMethodDescriptor y.desc).map (fun d => d.parameters.length) = some n) (hR : rm.frames + 1 ≤ R.frames ∧ 8 + (maxL + 11) + rm.locals ≤ R.locals) :
    vx_CSW R s args own index y bytes maxL ret hh ws rm mc ms n := by
  have ok : ∀ w ∈ va_wsS own index y ws, w.before args s = true := fun w h => ht w (hT w h).1
  have hG : GoodIn Ts ws := fun w h => hT w (by unfold va_wsS; exact List.mem_append_right _ h)
  have hc : Cond.codeWith y bytes maxL ret hh ∈ ws := by rw [hw]; exact List.mem_cons_self
  refine ⟨⟨hrc, hrs, hR.1, hR.2, pay_in ht hG, hc⟩, ht _ (hG _ hc).1, ok _ (by simp [va_wsS]), ⟨hd.1, hd.2.1⟩, fun sig h => ?_, ok _ (by simp [va_wsS]), ok _ (by simp [va_wsS])⟩
  have h2 := hd.2.2
  rw [h] at h2
  exact (Option.some.inj h2).symm
theorem vx_callSW (X : Stand p l e R s m args below meth c T locs cells slots) (hexec : p.tables.exec = Jvm.exec) {own : String} {index : Nat} {y : MethodName} {bytes : ByteArray} {maxL : Nat} {ret : Option FieldType} {hh : List (Nat × Nat × Nat × Nat)}
    (hown : s.vm.findClass own = some m.cls) (hlink : (Cond.methodLink own index y).before args s = true) (hstat : (Cond.static y).before args s = true) (hinit : (Cond.initialized y.cls).before args s = true)
    (hcode : (Cond.codeWith y bytes maxL ret hh).before args s = true) (hy : y.cls ≠ "java/lang/invoke/MethodHandle" ∧ y.cls ≠ "java/lang/invoke/VarHandle")
    {W9 : Nat} {Pre : Pt → Array Value → Prop} {Post : Pt → Array Value → Option Value → Pt → Prop} (hK : Back l R p e below s args y 3 W9 Pre Post)
    {g : JFrame} (hg : g.method = m) (hsize : g.locals.size = c.maxLocals) {argsL rest : List Value} (hlen : ∀ sig, parseMethodDescriptor y.desc = some sig → argsL.length = sig.parameters.length)
    (hstack : g.stack = argsL.reverse ++ rest) (hW : 2 * g.monitorRoom + (rest.map fun v => v.category).sum ≤ W9) (hdg : decode c.code g.pc = .ok (.invokestatic index, 3))
    (hpre : ∀ vm₁, s.WarmedH vm₁ → Pre ⟨T.setVm vm₁, locs, cells, slots⟩ argsL.toArray) :
    ∃ (v : Option Value) (vm₁ : Vm) (B : Pt), s.WarmedH vm₁ ∧ Stand p l e R s m args below meth c B.U B.locs B.cells B.slots ∧ Post ⟨T.setVm vm₁, locs, cells, slots⟩ argsL.toArray v B ∧
      ∀ target, Steps p.tables e below (B.U.setTop { g with pc := g.pc + 3, stack := v.toList ++ rest }) target → Steps p.tables e below (T.setTop g) target := by
  obtain ⟨mk, methM, cM, hnamed, hmethM, -, -, -, -, -, -, hsigM⟩ := Cond.codeWith_spec hcode
  have hstatic : methM.isStatic = true := Cond.static_spec hnamed hmethM hstat
  obtain ⟨kP, hkP, -⟩ := className_of_methodNamed hnamed
  have hinitP : kP.init = .initialized := Cond.initialized_spec (findClass_of_methodNamed hnamed) hkP hinit
  obtain ⟨vm₁, X₁, hstep₁⟩ := X.invokestatic hexec hown hlink hnamed hmethM hstatic hkP hinitP hy (g := g) hg (argsL := argsL) (rest := rest) (hlen _ hsigM) hstack hdg
  obtain ⟨v, B, X', hpost, hsteps⟩ := hK m meth c ⟨T.setVm vm₁, locs, cells, slots⟩ { g with stack := rest } (.invokestatic index) mk argsL.toArray X₁ hg hsize hdg hW (X₁.named hnamed) (hpre vm₁ X₁.warmed)
  exact ⟨v, vm₁, B, X₁.warmed, X', hpost, fun target h => hstep₁ _ fun acts => by rw [doInvoke_state]; exact hsteps.trans h⟩
theorem vx_runSW {y : MethodName} {bytes cc : ByteArray} {maxL nL mc ms n index : Nat} {ret : Option FieldType} {hh : List (Nat × Nat × Nat × Nat)} {ws : List Cond} {rm : Room} {Pc : Array Value → State → Prop} {Qc : Array Value → State → Outcome → State → Prop} {free : Addr → Prop} {Ts : List Cond} {own : String} {As rest : List Value} {g : JFrame}
    (S : CallFix p m c cc nL s args Ts own) (hM : Met l y ws rm Pc Qc mc ms free) (cw : vx_CSW R s args own index y bytes maxL ret hh ws rm mc ms n) (hp : PreS s H Pc As)
    (hg : g.method = m) (hn : As.length = n) (hsize : g.locals.size = nL) (hstack : g.stack = As.reverse ++ rest) (hW : 2 * g.monitorRoom + (rest.map fun v => v.category).sum ≤ 8) (hdg : decode cc g.pc = .ok (.invokestatic index, 3)) (hf : cells + mc ≤ R.cells ∧ slots + ms ≤ R.slots) :
    va_Run p l e R s m args below meth c H locs cells slots mc ms g rest (Qc As.toArray) (free) := by
  obtain ⟨⟨hrc, hrs, hfr, hlo, hws, hcw⟩, hcode, hini, hy, hlen, hl, hstt⟩ := cw
  have hK : Back l R p e below s args y 3 8 (PreOf R mc ms Pc) (PostOf Qc mc ms free) := va_backW (hh := hh) (bytes := bytes) (maxL := maxL) (ret := ret) hM hp.1 hrc hrs hfr hlo hws hcw (fun a' U hW => word_at hW (Or.inl (by first | rfl | simp [Cond.onTables, Cond.keeps, Cond.steady])) hini)
  obtain ⟨hx, hb, hml, ho, -⟩ := S
  intro T hT X
  obtain ⟨v, vm₁, ⟨U', l2, c2, s2⟩, hW₁, X', ⟨g', mk, t, L, e1, e2, hq, h1, hL, h2, h3⟩, st⟩ := vx_callSW X hx (hh := hh) (bytes := bytes) (maxL := maxL) (ret := ret) ho hl hstt hini hcode hy hK hg (hsize.trans hml.symm) (argsL := As) (rest := rest) (fun sig h => hn.trans (hlen sig h)) hstack hW (by rw [hb]; exact hdg)
    (fun vm₁ hW₁ => ⟨hf.1, hf.2, hp.2 (T.setVm vm₁) hT hW₁⟩)
  dsimp only [Pt.U, Pt.locs, Pt.cells, Pt.slots] at X' e1 e2 h1 h2 h3 st
  subst h1; subst h2; subst h3
  exact ⟨v, (T.setVm vm₁).calling g' mk As.toArray, t, U', L, hT, X', hL, e1, e2, hq, st⟩
/-- not caught here, past rows that name other classes: it goes on to the caller -/
theorem vx_outP {p : Program} {l : Launch} {e : Env} {R : Room} {s : State} {m : MethodId} {args : Array Value} {below : List Frame} {meth : Method} {c : Code} {H : Heap} {locs : List Loc} {cells slots : Nat} {free : Addr → Prop} {ls : Array Slot} {rest : List Value} {Qc : Array Value → State → Outcome → State → Prop} {XC : String → State → State → Prop}
    {pc : Nat} {own E : String} {ce : Cell} {q : Addr} {mc ms : Nat} (hown : s.vm.findClass own = some m.cls) (hlocks : meth.locks = false)
    (hpass : ∀ z ∈ c.exceptionTable.toList, covers z pc = false ∨ (z.catchType ≠ 0 ∧ ∃ nm : String, (Cond.classLink own z.catchType nm).before args s = true ∧ va_Nc E nm s)) (hcell : H[q]? = some ce) (hv : ce.vm = .none) (hcl : s.vm.findClass E = some ce.cls)
    (hx : ∀ t : State, t.heap = H → s.vm.Alike t.vm → XC E s t) (hf : ∀ z ∈ locs, free z.base) (hc : cells ≤ mc) (hs : slots ≤ ms) :
    vx_W p l e R s m args below meth c H locs cells slots (vx_MQ below Qc XC args s mc ms free) (F0 m pc ls rest) q := by
  intro T hT X
  have hpl : e.platform.magicAccessors = ({} : Platform).magicAccessors := by rw [X.admits.platform]
  obtain ⟨vm', hW', X', st⟩ := X.outThrough hlocks q (g := F0 m pc ls rest) rfl rfl rfl (cell := ce) (by rw [hT]; exact hcell) (by rw [hv]; rfl)
    (by obtain ⟨k9, h9, -⟩ := Vm.findClass_spec hcl; exact ⟨k9, h9⟩) (fun z hz => by
      rcases hpass z hz with h | ⟨hz0, nm, hl1, hn1⟩
      · exact Or.inl h
      · obtain ⟨c6, hc6, hcl6⟩ := Cond.classLink_spec hown hl1 e.platform hpl
        obtain ⟨a8, b8, h1, h2, h3⟩ := hn1
        cases Option.some.inj (h1.symm.trans hcl)
        cases Option.some.inj (h2.symm.trans hc6)
        exact Or.inr ⟨hz0, _, hcl6, h3⟩)
  obtain ⟨g₀, hfr⟩ := X'.frames_eq
  have hcell9 : ((T.setVm vm').setFrames (.throwing q :: below)).heap[q]? = some ce := by
    show T.heap[q]? = some ce
    rw [hT]; exact hcell
  have hend : Ended ((T.setVm vm').setFrames (.throwing q :: below)) below (.threw q) := State.frames_setFrames _ (State.cur_lt_of_frames hfr)
  refine ⟨(T.setVm vm').setFrames (.throwing q :: below), ?_, .threw q, X'.here.running, hend, Or.inr ⟨q, rfl, E, ce, locs, hx _ hT (X'.ends _).1.alike, hcell9, hv, hcl, (X'.ends _).1, (X'.ends _).2.mono hc hs, hf⟩⟩
  rw [X.pushThrowing_eq]
  exact st
/-- a thing of a world lies in the heap -/
theorem vx_lt {D : va_G} {cl : List vw_C} {ws : va_W} {H1 : Heap} (h : va_P D cl ws H1) {k : Nat} {q : Nat × va_E} (hk : ws[k]? = some q) : q.1 < H1.size := (h k q hk).lt
end VXS
/-! ===== END ===== -/
/-! ===== BEGIN methods with a table of their own: called by a name, returning or throwing ===== -/
section VXH
/-! vx_backW, vx_callVX, vx_callSX, vx_callVW, vx_runVW, vx_runVX, vx_runSX, vx_ofWH follow the same proofs as their sisters above (Free/Laws.lean, Shelf42/LK1.lean); vx_outP calls Shelf42/NT130.lean (outThrough). -/
section
variable {l : Launch} {R : Room} {p : Program} {e : Env} {below : List Frame} {s : State} {sargs : Array Value} {y : MethodName} {len W9 : Nat}
theorem vx_backW {ws : List Cond} {rm : Room} {Pc : Array Value → State → Prop} {Qc : Array Value → State → Outcome → State → Prop} {XC : String → State → State → Prop} {mc ms : Nat} {free : Addr → Prop} {bytes : ByteArray} {maxL : Nat} {ret : Option FieldType} {hh : List (Nat × Nat × Nat × Nat)}
    (hM : vx_Met l y ws rm Pc Qc XC mc ms free) (hblind : FrameBlind Pc) (hrc : rm.cells = mc) (hrs : rm.slots = ms)
    (hframes : rm.frames + 1 ≤ R.frames) (hlocals : W9 + (maxL + 11) + rm.locals ≤ R.locals)
    (hws : ∀ w ∈ ws, ∀ a' U, s.WarmedH U.vm → w.before a' U = true) (hcode : Cond.codeWith y bytes maxL ret hh ∈ ws) (hinit : ∀ a' U, s.WarmedH U.vm → (Cond.initialized y.cls).before a' U = true) :
    vx_Back l R p e below s sargs y len W9 (PreOf R mc ms Pc) (PostOf Qc mc ms free) (vx_Post XC mc ms free) := by
  intro m meth c A g ig mk a X hg hsize hdg hW hn hp
  have h1 : (headSpec ws rm).pre.before a A.U = true := atoms_intro fun w hw => hws w hw _ _ X.warmed
  have h2 : (Cond.codeWith y bytes maxL ret hh).before a A.U = true := hws _ hcode _ _ X.warmed
  have h3 : (Cond.initialized y.cls).before a A.U = true := hinit _ _ X.warmed
  have h4 : A.cells + (headSpec ws rm).room.cells ≤ R.cells := by rw [show (headSpec ws rm).room.cells = mc from hrc]; exact hp.1
  have h5 : A.slots + (headSpec ws rm).room.slots ≤ R.slots := by rw [show (headSpec ws rm).room.slots = ms from hrs]; exact hp.2.1
  have hPc : Pc a (A.U.calling g mk a) := hblind _ _ _ _ hp.2.2
  obtain ⟨U, Ls, c0, s0⟩ := A
  dsimp only [Pt.U, Pt.locs, Pt.cells, Pt.slots] at h1 h2 h3 h4 h5 X hn hPc ⊢
  obtain ⟨m9, methY, cY, hn9, hmY, hcY, -, hlY, -⟩ := Cond.codeWith_spec h2
  cases Option.some.inj (hn9.symm.trans hn)
  obtain ⟨kY, hkY, -⟩ := className_of_methodNamed hn
  have hinitY : kY.init = .initialized := Cond.initialized_spec (findClass_of_methodNamed hn) hkY h3
  have h : At U g.method c below := by rw [hg]; exact X.here
  have hlocals9 : W9 + (maxL + 11) + (headSpec ws rm).room.locals ≤ R.locals := hlocals
  have happ : (headSpec ws rm).appliesLoose y e.platform (U.calling g mk a) = true :=
    Spec.appliesLoose_calling (g := g) h hdg hn hkY hinitY
      (X.room_calling (g := g) (R' := (headSpec ws rm).room) hsize hmY hcY hframes (by rw [hlY]; omega) h4 h5) h1
  obtain ⟨mid, hmid⟩ := h.above
  have hfr : (U.setTop g).frames = (.java g :: mid) ++ below := by rw [State.frames_setTop' g h.top, hmid]; rfl
  obtain ⟨o, s₂, hsteps, -, hend, hq⟩ := Steps.callFree hM p X.admits X.cas X.clock (acts := []) hfr happ hPc trivial
  have hq' : vx_Q Qc XC mc ms free a (U.calling g mk a) o s₂ := hq
  rw [State.frames_setTop' g h.top] at hend
  obtain ⟨g₀, hg0⟩ := Option.isSome_iff_exists.mp h.top
  obtain ⟨r, hr⟩ := State.topJava?_eq_some.mp hg0
  have hr' : (({ U with heap := s₂.heap, slotsUsed := s₂.slotsUsed } : State).setVm s₂.vm).frames = .java g₀ :: r := hr
  rcases hq' with ⟨hqc, L, hfe, hL⟩ | ⟨q, rfl, E, ce, L, hx, hce, hcv, hcl, hW₂, hsm, hL⟩
  · obtain ⟨⟨v, rfl⟩, hW₂, e2, q2, q3, q4, q5, q6⟩ := id hfe
    have e3 : s₂ = ({ (U.calling g mk a).setFrames s₂.frames with heap := s₂.heap, slotsUsed := s₂.slotsUsed } : State).setVm s₂.vm := by
      have : s₂ = ({ s₂ with vm := (U.calling g mk a).vm } : State).setVm s₂.vm := rfl
      rw [e2] at this
      exact this
    obtain ⟨c₂, i₂, len₂, hc₂, hd₂, hf₂⟩ := hend
    have hW' : U.WarmedH s₂.vm := hW₂
    have hcc : c₂ = c := by
      have h1 : s₂.code? g.method = U.code? g.method := by
        rw [State.code?_eq, State.code?_eq, hW'.alike.method?]
      exact Option.some.inj (hc₂.symm.trans (h1.trans h.code))
    subst hcc
    have hlen : len₂ = len := by rw [hdg] at hd₂; cases hd₂; rfl
    subst hlen
    have hs₂ : s₂ = (({ U with heap := s₂.heap, slotsUsed := s₂.slotsUsed } : State).setVm s₂.vm).setTop { g with pc := g.pc + len₂, stack := v.toList ++ g.stack } := by
      refine e3.trans ?_
      rw [hf₂, State.calling_eq h.top, State.setFrames_setFrames, State.setTop_of_frames _ hr', hr]
      rfl
    have hsame : U.sameButNew ({ U with heap := s₂.heap, slotsUsed := s₂.slotsUsed } : State) L mc ms := by
      refine ⟨?_, q2, q3, q4, q5, q6⟩
      obtain ⟨t, ht, -⟩ := State.frames_cons hr
      show ({ U with heap := s₂.heap, slotsUsed := s₂.slotsUsed } : State) = { U.setFrames U.frames with heap := s₂.heap, slotsUsed := s₂.slotsUsed }
      rw [State.setFrames_self ht]
    subst hg
    refine Or.inl ⟨v, ⟨(({ U with heap := s₂.heap, slotsUsed := s₂.slotsUsed } : State).setVm s₂.vm), Ls ++ L, c0 + mc, s0 + ms⟩,
      ⟨X.admits, X.cas, X.clock, X.frames, X.room, X.hears, X.method, X.code, (X.here.setHeapUsed s₂.heap s₂.slotsUsed).setVm hW'.alike, X.tail, State.WarmedH.trans X.warmed hW', X.limits, X.bytes, X.same.trans (hsame.setVm s.vm)⟩,
      ⟨g, mk, s₂, L, rfl, rfl, hqc, rfl, hL, rfl, rfl⟩, ?_⟩
    show Steps p.tables e below _ ((({ U with heap := s₂.heap, slotsUsed := s₂.slotsUsed } : State).setVm s₂.vm).setTop { g with pc := g.pc + len₂, stack := v.toList ++ g.stack })
    rw [← hs₂]
    exact hsteps
  · obtain ⟨e2, q2, q3, q4, q5, q6⟩ := id hsm
    have e3 : s₂ = ({ (U.calling g mk a).setFrames s₂.frames with heap := s₂.heap, slotsUsed := s₂.slotsUsed } : State).setVm s₂.vm := by
      have : s₂ = ({ s₂ with vm := (U.calling g mk a).vm } : State).setVm s₂.vm := rfl
      rw [e2] at this
      exact this
    have hf₂ : s₂.frames = .throwing q :: .java g :: U.frames.tail := hend
    have hW' : U.WarmedH s₂.vm := hW₂
    have hs₂ : s₂ = ((({ U with heap := s₂.heap, slotsUsed := s₂.slotsUsed } : State).setVm s₂.vm).setTop g).pushFrame (.throwing q) := by
      refine e3.trans ?_
      rw [hf₂, State.calling_eq h.top, State.setFrames_setFrames, State.pushFrame, State.frames_setTop _ hr', State.setTop_of_frames _ hr', State.setFrames_setFrames, hr]
      rfl
    have hsame : U.sameButNew ({ U with heap := s₂.heap, slotsUsed := s₂.slotsUsed } : State) L mc ms := by
      refine ⟨?_, q2, q3, q4, q5, q6⟩
      obtain ⟨t, ht, -⟩ := State.frames_cons hr
      show ({ U with heap := s₂.heap, slotsUsed := s₂.slotsUsed } : State) = { U.setFrames U.frames with heap := s₂.heap, slotsUsed := s₂.slotsUsed }
      rw [State.setFrames_self ht]
    subst hg
    refine Or.inr ⟨q, ⟨(({ U with heap := s₂.heap, slotsUsed := s₂.slotsUsed } : State).setVm s₂.vm), Ls ++ L, c0 + mc, s0 + ms⟩,
      ⟨X.admits, X.cas, X.clock, X.frames, X.room, X.hears, X.method, X.code, (X.here.setHeapUsed s₂.heap s₂.slotsUsed).setVm hW'.alike, X.tail, State.WarmedH.trans X.warmed hW', X.limits, X.bytes, X.same.trans (hsame.setVm s.vm)⟩,
      ⟨g, mk, s₂, L, E, ce, rfl, rfl, hx, hce, hcv, hcl, rfl, hL, rfl, rfl⟩, ?_⟩
    show Steps p.tables e below _ (((({ U with heap := s₂.heap, slotsUsed := s₂.slotsUsed } : State).setVm s₂.vm).setTop g).pushFrame (.throwing q))
    rw [← hs₂]
    exact hsteps
end
variable {p : Program} {l : Launch} {e : Env} {R : Room} {s : State} {m : MethodId} {args : Array Value} {below : List Frame} {meth : Method} {c : Code} {T : State} {H : Heap} {locs : List Loc} {cells slots : Nat}
theorem vx_callVX (X : Stand p l e R s m args below meth c T locs cells slots) (hexec : p.tables.exec = Jvm.exec) {own C : String} {index : Nat} {y : MethodName} {bytes : ByteArray} {maxL : Nat} {ret : Option FieldType} {hh : List (Nat × Nat × Nat × Nat)}
    (hown : s.vm.findClass own = some m.cls) (hlink : (Cond.methodLink own index y).before args s = true) (hinst : (Cond.instanceMethod y).before args s = true) (hsel : (Cond.selects C y y).before args s = true)
    (hcode : (Cond.codeWith y bytes maxL ret hh).before args s = true) (hy : y.cls ≠ "java/lang/invoke/MethodHandle" ∧ y.cls ≠ "java/lang/invoke/VarHandle")
    {W9 : Nat} {Pre : Pt → Array Value → Prop} {Post : Pt → Array Value → Option Value → Pt → Prop} {PostX : Pt → Array Value → Addr → Pt → Prop} (hK : vx_Back l R p e below s args y 3 W9 Pre Post PostX)
    {b : Addr} {cellB : Cell} (hcell : T.heap[b]? = some cellB) (hobj : cellB.vm.isStatics = false) (hcls : s.vm.findClass C = some cellB.cls)
    {g : JFrame} (hg : g.method = m) (hsize : g.locals.size = c.maxLocals) {argsL rest : List Value} (hlen : ∀ sig, parseMethodDescriptor y.desc = some sig → argsL.length = sig.parameters.length)
    (hstack : g.stack = argsL.reverse ++ .ref b :: rest) (hW : 2 * g.monitorRoom + (rest.map fun v => v.category).sum ≤ W9) (hdg : decode c.code g.pc = .ok (.invokevirtual index, 3))
    (hpre : ∀ vm₁, s.WarmedH vm₁ → Pre ⟨T.setVm vm₁, locs, cells, slots⟩ (Value.ref b :: argsL).toArray) :
    (∃ (v : Option Value) (vm₁ : Vm) (B : Pt), s.WarmedH vm₁ ∧ Stand p l e R s m args below meth c B.U B.locs B.cells B.slots ∧ Post ⟨T.setVm vm₁, locs, cells, slots⟩ (Value.ref b :: argsL).toArray v B ∧
      ∀ target, Steps p.tables e below (B.U.setTop { g with pc := g.pc + 3, stack := v.toList ++ rest }) target → Steps p.tables e below (T.setTop g) target) ∨
    (∃ (q : Addr) (vm₁ : Vm) (B : Pt), s.WarmedH vm₁ ∧ Stand p l e R s m args below meth c B.U B.locs B.cells B.slots ∧ PostX ⟨T.setVm vm₁, locs, cells, slots⟩ (Value.ref b :: argsL).toArray q B ∧
      Steps p.tables e below (T.setTop g) ((B.U.setTop { g with stack := rest }).pushFrame (.throwing q))) := by
  obtain ⟨mk, methM, hnamed, hmethM, hstM, habM⟩ := Cond.instanceMethod_spec hinst
  obtain ⟨m8, methM', cM, hn8, hmethM', -, -, -, -, -, -, hsigM⟩ := Cond.codeWith_spec hcode
  cases Option.some.inj (hn8.symm.trans hnamed)
  cases hmethM.symm.trans hmethM'
  obtain ⟨c2, r2, m2, q1, q2, q3, q4, kP, hkP, hkPi⟩ := Cond.selects_spec hsel
  cases hcls.symm.trans q1
  cases (State.methodFound?_of_named hnamed hy).symm.trans q2
  cases hnamed.symm.trans q3
  have hselP : selectMethod e.platform s.vm cellB.cls mk = .method mk := by rw [Launch.admits_selectMethod X.admits]; exact q4
  obtain ⟨vm₁, X₁, hstep₁⟩ := X.invokevirtual hexec hown hlink hnamed hmethM hstM hkP hkPi hy (a := b) (cell := cellB) hcell
    (fun z h => by rw [h] at hobj; cases hobj) hselP hmethM habM hkP hkPi (g := g) hg (argsL := argsL) (rest := rest) (hlen _ hsigM) hstack hdg
  rcases hK m meth c ⟨T.setVm vm₁, locs, cells, slots⟩ { g with stack := rest } (.invokevirtual index) mk (Value.ref b :: argsL).toArray X₁ hg hsize hdg hW (X₁.named hnamed) (hpre vm₁ X₁.warmed) with ⟨v, B, X', hpost, hsteps⟩ | ⟨q, B, X', hpost, hsteps⟩
  · exact Or.inl ⟨v, vm₁, B, X₁.warmed, X', hpost, fun target h => hstep₁ _ fun acts => by rw [doInvoke_state]; exact hsteps.trans h⟩
  · exact Or.inr ⟨q, vm₁, B, X₁.warmed, X', hpost, hstep₁ _ fun acts => by rw [doInvoke_state]; exact hsteps⟩
theorem vx_callSX (X : Stand p l e R s m args below meth c T locs cells slots) (hexec : p.tables.exec = Jvm.exec) {own : String} {index : Nat} {y : MethodName} {bytes : ByteArray} {maxL : Nat} {ret : Option FieldType} {hh : List (Nat × Nat × Nat × Nat)}
    (hown : s.vm.findClass own = some m.cls) (hlink : (Cond.methodLink own index y).before args s = true) (hstat : (Cond.static y).before args s = true) (hinit : (Cond.initialized y.cls).before args s = true)
    (hcode : (Cond.codeWith y bytes maxL ret hh).before args s = true) (hy : y.cls ≠ "java/lang/invoke/MethodHandle" ∧ y.cls ≠ "java/lang/invoke/VarHandle")
    {W9 : Nat} {Pre : Pt → Array Value → Prop} {Post : Pt → Array Value → Option Value → Pt → Prop} {PostX : Pt → Array Value → Addr → Pt → Prop} (hK : vx_Back l R p e below s args y 3 W9 Pre Post PostX)
    {g : JFrame} (hg : g.method = m) (hsize : g.locals.size = c.maxLocals) {argsL rest : List Value} (hlen : ∀ sig, parseMethodDescriptor y.desc = some sig → argsL.length = sig.parameters.length)
    (hstack : g.stack = argsL.reverse ++ rest) (hW : 2 * g.monitorRoom + (rest.map fun v => v.category).sum ≤ W9) (hdg : decode c.code g.pc = .ok (.invokestatic index, 3))
    (hpre : ∀ vm₁, s.WarmedH vm₁ → Pre ⟨T.setVm vm₁, locs, cells, slots⟩ argsL.toArray) :
    (∃ (v : Option Value) (vm₁ : Vm) (B : Pt), s.WarmedH vm₁ ∧ Stand p l e R s m args below meth c B.U B.locs B.cells B.slots ∧ Post ⟨T.setVm vm₁, locs, cells, slots⟩ argsL.toArray v B ∧
      ∀ target, Steps p.tables e below (B.U.setTop { g with pc := g.pc + 3, stack := v.toList ++ rest }) target → Steps p.tables e below (T.setTop g) target) ∨
    (∃ (q : Addr) (vm₁ : Vm) (B : Pt), s.WarmedH vm₁ ∧ Stand p l e R s m args below meth c B.U B.locs B.cells B.slots ∧ PostX ⟨T.setVm vm₁, locs, cells, slots⟩ argsL.toArray q B ∧
      Steps p.tables e below (T.setTop g) ((B.U.setTop { g with stack := rest }).pushFrame (.throwing q))) := by
  obtain ⟨mk, methM, cM, hnamed, hmethM, -, -, -, -, -, -, hsigM⟩ := Cond.codeWith_spec hcode
  have hstatic : methM.isStatic = true := Cond.static_spec hnamed hmethM hstat
  obtain ⟨kP, hkP, -⟩ := className_of_methodNamed hnamed
  have hinitP : kP.init = .initialized := Cond.initialized_spec (findClass_of_methodNamed hnamed) hkP hinit
  obtain ⟨vm₁, X₁, hstep₁⟩ := X.invokestatic hexec hown hlink hnamed hmethM hstatic hkP hinitP hy (g := g) hg (argsL := argsL) (rest := rest) (hlen _ hsigM) hstack hdg
  rcases hK m meth c ⟨T.setVm vm₁, locs, cells, slots⟩ { g with stack := rest } (.invokestatic index) mk argsL.toArray X₁ hg hsize hdg hW (X₁.named hnamed) (hpre vm₁ X₁.warmed) with ⟨v, B, X', hpost, hsteps⟩ | ⟨q, B, X', hpost, hsteps⟩
  · exact Or.inl ⟨v, vm₁, B, X₁.warmed, X', hpost, fun target h => hstep₁ _ fun acts => by rw [doInvoke_state]; exact hsteps.trans h⟩
  · exact Or.inr ⟨q, vm₁, B, X₁.warmed, X', hpost, hstep₁ _ fun acts => by rw [doInvoke_state]; exact hsteps⟩
theorem vx_callVW (X : Stand p l e R s m args below meth c T locs cells slots) (hexec : p.tables.exec = Jvm.exec) {own C : String} {index : Nat} {y : MethodName} {bytes : ByteArray} {maxL : Nat} {ret : Option FieldType} {hh : List (Nat × Nat × Nat × Nat)}
    (hown : s.vm.findClass own = some m.cls) (hlink : (Cond.methodLink own index y).before args s = true) (hinst : (Cond.instanceMethod y).before args s = true) (hsel : (Cond.selects C y y).before args s = true)
    (hcode : (Cond.codeWith y bytes maxL ret hh).before args s = true) (hy : y.cls ≠ "java/lang/invoke/MethodHandle" ∧ y.cls ≠ "java/lang/invoke/VarHandle")
    {W9 : Nat} {Pre : Pt → Array Value → Prop} {Post : Pt → Array Value → Option Value → Pt → Prop} (hK : Back l R p e below s args y 3 W9 Pre Post)
    {b : Addr} {cellB : Cell} (hcell : T.heap[b]? = some cellB) (hobj : cellB.vm.isStatics = false) (hcls : s.vm.findClass C = some cellB.cls)
    {g : JFrame} (hg : g.method = m) (hsize : g.locals.size = c.maxLocals) {argsL rest : List Value} (hlen : ∀ sig, parseMethodDescriptor y.desc = some sig → argsL.length = sig.parameters.length)
    (hstack : g.stack = argsL.reverse ++ .ref b :: rest) (hW : 2 * g.monitorRoom + (rest.map fun v => v.category).sum ≤ W9) (hdg : decode c.code g.pc = .ok (.invokevirtual index, 3))
    (hpre : ∀ vm₁, s.WarmedH vm₁ → Pre ⟨T.setVm vm₁, locs, cells, slots⟩ (Value.ref b :: argsL).toArray) :
    ∃ (v : Option Value) (vm₁ : Vm) (B : Pt), s.WarmedH vm₁ ∧ Stand p l e R s m args below meth c B.U B.locs B.cells B.slots ∧ Post ⟨T.setVm vm₁, locs, cells, slots⟩ (Value.ref b :: argsL).toArray v B ∧
      ∀ target, Steps p.tables e below (B.U.setTop { g with pc := g.pc + 3, stack := v.toList ++ rest }) target → Steps p.tables e below (T.setTop g) target := by
  obtain ⟨mk, methM, hnamed, hmethM, hstM, habM⟩ := Cond.instanceMethod_spec hinst
  obtain ⟨m8, methM', cM, hn8, hmethM', -, -, -, -, -, -, hsigM⟩ := Cond.codeWith_spec hcode
  cases Option.some.inj (hn8.symm.trans hnamed)
  cases hmethM.symm.trans hmethM'
  obtain ⟨c2, r2, m2, q1, q2, q3, q4, kP, hkP, hkPi⟩ := Cond.selects_spec hsel
  cases hcls.symm.trans q1
  cases (State.methodFound?_of_named hnamed hy).symm.trans q2
  cases hnamed.symm.trans q3
  have hselP : selectMethod e.platform s.vm cellB.cls mk = .method mk := by rw [Launch.admits_selectMethod X.admits]; exact q4
  obtain ⟨vm₁, X₁, hstep₁⟩ := X.invokevirtual hexec hown hlink hnamed hmethM hstM hkP hkPi hy (a := b) (cell := cellB) hcell
    (fun z h => by rw [h] at hobj; cases hobj) hselP hmethM habM hkP hkPi (g := g) hg (argsL := argsL) (rest := rest) (hlen _ hsigM) hstack hdg
  obtain ⟨v, B, X', hpost, hsteps⟩ := hK m meth c ⟨T.setVm vm₁, locs, cells, slots⟩ { g with stack := rest } (.invokevirtual index) mk (Value.ref b :: argsL).toArray X₁ hg hsize hdg hW (X₁.named hnamed) (hpre vm₁ X₁.warmed)
  exact ⟨v, vm₁, B, X₁.warmed, X', hpost, fun target h => hstep₁ _ fun acts => by rw [doInvoke_state]; exact hsteps.trans h⟩
abbrev vx_CVW (R : Room) (s : State) (args : Array Value) (own C : String) (index : Nat) (y : MethodName) (bytes : ByteArray) (maxL : Nat) (ret : Option FieldType) (hh : List (Nat × Nat × Nat × Nat)) (ws : List Cond) (rm : Room) (mc ms n : Nat) : Prop :=
  (rm.cells = mc ∧ rm.slots = ms ∧ rm.frames + 1 ≤ R.frames ∧ 8 + (maxL + 11) + rm.locals ≤ R.locals ∧ (∀ w ∈ ws, ∀ (a' : Array Value) (U : State), s.WarmedH U.vm → w.before a' U = true) ∧ Cond.codeWith y bytes maxL ret hh ∈ ws) ∧
  (Cond.codeWith y bytes maxL ret hh).before args s = true ∧ (Cond.initialized y.cls).before args s = true ∧ (y.cls ≠ "java/lang/invoke/MethodHandle" ∧ y.cls ≠ "java/lang/invoke/VarHandle") ∧
  (∀ sig, parseMethodDescriptor y.desc = some sig → n = sig.parameters.length) ∧ (Cond.methodLink own index y).before args s = true ∧ (Cond.instanceMethod y).before args s = true ∧ (Cond.selects C y y).before args s = true
theorem vx_cwVW {own C : String} {index maxL mc ms : Nat} {y : MethodName} {bytes : ByteArray} {ret : Option FieldType} {hh : List (Nat × Nat × Nat × Nat)} {Ts ws ws' : List Cond} {rm : Room} (n : Nat) (ht : ∀ w ∈ Ts, w.before args s = true) (hT : GoodIn Ts (wsV own index C y ws)) (hw : ws = Cond.codeWith y bytes maxL ret hh :: ws') (hrc : rm.cells = mc) (hrs : rm.slots = ms)
    (hd : y.cls = C ∧ y.cls ≠ "java/lang/invoke/MethodHandle" ∧ y.cls ≠ "java/lang/invoke/VarHandle" ∧ (parseMethodDescriptor y.desc).map (fun d => d.parameters.length) = some n) (hR : rm.frames + 1 ≤ R.frames ∧ 8 + (maxL + 11) + rm.locals ≤ R.locals) :
    vx_CVW R s args own C index y bytes maxL ret hh ws rm mc ms n := by
  obtain ⟨hC, hd⟩ := hd
  subst hC
  have ok : ∀ w ∈ wsV own index y.cls y ws, w.before args s = true := fun w h => ht w (hT w h).1
  have hG : GoodIn Ts ws := fun w h => hT w (by unfold wsV; exact List.mem_append_right _ h)
  have hc : Cond.codeWith y bytes maxL ret hh ∈ ws := by rw [hw]; exact List.mem_cons_self
  refine ⟨⟨hrc, hrs, hR.1, hR.2, pay_in ht hG, hc⟩, ht _ (hG _ hc).1, ok _ (by simp [wsV]), ⟨hd.1, hd.2.1⟩, fun sig h => ?_, ok _ (by simp [wsV]), ok _ (by simp [wsV]), ok _ (by simp [wsV])⟩
  have h2 := hd.2.2
  rw [h] at h2
  exact (Option.some.inj h2).symm
theorem vx_runVW {y : MethodName} {bytes cc : ByteArray} {maxL nL mc ms n index : Nat} {ret : Option FieldType} {hh : List (Nat × Nat × Nat × Nat)} {ws : List Cond} {rm : Room} {Pc : Array Value → State → Prop} {Qc : Array Value → State → Outcome → State → Prop} {free : Addr → Prop} {Ts : List Cond} {own C : String} {b : Addr} {As rest : List Value} {g : JFrame}
    (S : CallFix p m c cc nL s args Ts own) (hM : Met l y ws rm Pc Qc mc ms free) (cw : vx_CVW R s args own C index y bytes maxL ret hh ws rm mc ms n) (hp : PreV s H C b Pc As)
    (hg : g.method = m) (hn : As.length = n) (hsize : g.locals.size = nL) (hstack : g.stack = As.reverse ++ .ref b :: rest) (hW : 2 * g.monitorRoom + (rest.map fun v => v.category).sum ≤ 8) (hdg : decode cc g.pc = .ok (.invokevirtual index, 3)) (hf : cells + mc ≤ R.cells ∧ slots + ms ≤ R.slots) :
    va_Run p l e R s m args below meth c H locs cells slots mc ms g rest (Qc (Value.ref b :: As).toArray) free := by
  obtain ⟨⟨hrc, hrs, hfr, hlo, hws, hcw⟩, hcode, hini, hy, hlen, hl, hin, hse⟩ := cw
  have hK : Back l R p e below s args y 3 8 (PreOf R mc ms Pc) (PostOf Qc mc ms free) := va_backW (hh := hh) (bytes := bytes) (maxL := maxL) (ret := ret) hM hp.1 hrc hrs hfr hlo hws hcw (fun a' U hW => word_at hW (Or.inl (by first | rfl | simp [Cond.onTables, Cond.keeps, Cond.steady])) hini)
  obtain ⟨hx, hb, hml, ho, -⟩ := S
  obtain ⟨-, ⟨cellB, hcB, hoB, hclB⟩, hPc⟩ := hp
  intro T hT X
  obtain ⟨v, vm₁, ⟨U', l2, c2, s2⟩, hW₁, X', ⟨g', mk, t, L, e1, e2, hq, h1, hL, h2, h3⟩, st⟩ := vx_callVW X hx (C := C) (hh := hh) (bytes := bytes) (maxL := maxL) (ret := ret) ho hl hin hse hcode hy hK (by rw [hT]; exact hcB) hoB hclB hg (hsize.trans hml.symm) (argsL := As) (rest := rest) (fun sig h => hn.trans (hlen sig h)) hstack hW (by rw [hb]; exact hdg)
    (fun vm₁ hW₁ => ⟨hf.1, hf.2, hPc (T.setVm vm₁) hT hW₁⟩)
  dsimp only [Pt.U, Pt.locs, Pt.cells, Pt.slots] at X' e1 e2 h1 h2 h3 st
  subst h1; subst h2; subst h3
  exact ⟨v, (T.setVm vm₁).calling g' mk (Value.ref b :: As).toArray, t, U', L, hT, X', hL, e1, e2, hq, st⟩
section
variable {y : MethodName} {bytes cc : ByteArray} {maxL nL mc ms n index : Nat} {ret : Option FieldType} {ws : List Cond} {rm : Room} {Pc : Array Value → State → Prop} {Qc : Array Value → State → Outcome → State → Prop} {XC : String → State → State → Prop} {free : Addr → Prop} {Ts : List Cond} {own C : String} {b : Addr} {As rest : List Value} {g : JFrame}
theorem vx_runVX {hh : List (Nat × Nat × Nat × Nat)} (S : CallFix p m c cc nL s args Ts own) (hM : vx_Met l y ws rm Pc Qc XC mc ms free) (cw : vx_CVW R s args own C index y bytes maxL ret hh ws rm mc ms n) (hp : PreV s H C b Pc As)
    (hg : g.method = m) (hn : As.length = n) (hsize : g.locals.size = nL) (hstack : g.stack = As.reverse ++ .ref b :: rest) (hW : 2 * g.monitorRoom + (rest.map fun v => v.category).sum ≤ 8) (hdg : decode cc g.pc = .ok (.invokevirtual index, 3)) (hf : cells + mc ≤ R.cells ∧ slots + ms ≤ R.slots) :
    vx_Run p l e R s m args below meth c H locs cells slots mc ms g rest (Qc (Value.ref b :: As).toArray) XC free := by
  obtain ⟨⟨hrc, hrs, hfr, hlo, hws, hcw⟩, hcode, hini, hy, hlen, hl, hin, hse⟩ := cw
  have hK : vx_Back l R p e below s args y 3 8 (PreOf R mc ms Pc) (PostOf Qc mc ms free) (vx_Post XC mc ms free) := vx_backW (hh := hh) (bytes := bytes) (maxL := maxL) (ret := ret) hM hp.1 hrc hrs hfr hlo hws hcw (fun a' U hW => word_at hW (Or.inl (by first | rfl | simp [Cond.onTables, Cond.keeps, Cond.steady])) hini)
  obtain ⟨hx, hb, hml, ho, -⟩ := S
  obtain ⟨-, ⟨cellB, hcB, hoB, hclB⟩, hPc⟩ := hp
  intro T hT X
  rcases vx_callVX X hx (C := C) (hh := hh) (bytes := bytes) (maxL := maxL) (ret := ret) ho hl hin hse hcode hy hK (by rw [hT]; exact hcB) hoB hclB hg (hsize.trans hml.symm) (argsL := As) (rest := rest) (fun sig h => hn.trans (hlen sig h)) hstack hW (by rw [hb]; exact hdg)
    (fun vm₁ hW₁ => ⟨hf.1, hf.2, hPc (T.setVm vm₁) hT hW₁⟩) with ⟨v, vm₁, ⟨U', l2, c2, s2⟩, hW₁, X', ⟨g', mk, t, L, e1, e2, hq, h1, hL, h2, h3⟩, st⟩ | ⟨q, vm₁, ⟨U', l2, c2, s2⟩, hW₁, X', ⟨g', mk, t, L, E, ce, e1, e2, hq, hce, hcv, hcl, h1, hL, h2, h3⟩, st⟩
  · dsimp only [Pt.U, Pt.locs, Pt.cells, Pt.slots] at X' e1 e2 h1 h2 h3 st
    subst h1; subst h2; subst h3
    exact Or.inl ⟨v, (T.setVm vm₁).calling g' mk (Value.ref b :: As).toArray, t, U', L, hT, X', hL, e1, e2, hq, st⟩
  · dsimp only [Pt.U, Pt.locs, Pt.cells, Pt.slots] at X' e1 e2 h1 h2 h3 st hcl
    subst h1; subst h2; subst h3
    exact Or.inr ⟨q, (T.setVm vm₁).calling g' mk (Value.ref b :: As).toArray, t, U', L, E, ce, hT, X', hL, e1, e2, hq, hce, hcv, vx_cls hW₁ hcl, st⟩
theorem vx_runSX {hh : List (Nat × Nat × Nat × Nat)} (S : CallFix p m c cc nL s args Ts own) (hM : vx_Met l y ws rm Pc Qc XC mc ms free) (cw : vx_CSW R s args own index y bytes maxL ret hh ws rm mc ms n) (hp : PreS s H Pc As)
    (hg : g.method = m) (hn : As.length = n) (hsize : g.locals.size = nL) (hstack : g.stack = As.reverse ++ rest) (hW : 2 * g.monitorRoom + (rest.map fun v => v.category).sum ≤ 8) (hdg : decode cc g.pc = .ok (.invokestatic index, 3)) (hf : cells + mc ≤ R.cells ∧ slots + ms ≤ R.slots) :
    vx_Run p l e R s m args below meth c H locs cells slots mc ms g rest (Qc As.toArray) XC free := by
  obtain ⟨⟨hrc, hrs, hfr, hlo, hws, hcw⟩, hcode, hini, hy, hlen, hl, hstt⟩ := cw
  have hK : vx_Back l R p e below s args y 3 8 (PreOf R mc ms Pc) (PostOf Qc mc ms free) (vx_Post XC mc ms free) := vx_backW (hh := hh) (bytes := bytes) (maxL := maxL) (ret := ret) hM hp.1 hrc hrs hfr hlo hws hcw (fun a' U hW => word_at hW (Or.inl (by first | rfl | simp [Cond.onTables, Cond.keeps, Cond.steady])) hini)
  obtain ⟨hx, hb, hml, ho, -⟩ := S
  intro T hT X
  rcases vx_callSX X hx (hh := hh) (bytes := bytes) (maxL := maxL) (ret := ret) ho hl hstt hini hcode hy hK hg (hsize.trans hml.symm) (argsL := As) (rest := rest) (fun sig h => hn.trans (hlen sig h)) hstack hW (by rw [hb]; exact hdg)
    (fun vm₁ hW₁ => ⟨hf.1, hf.2, hp.2 (T.setVm vm₁) hT hW₁⟩) with ⟨v, vm₁, ⟨U', l2, c2, s2⟩, hW₁, X', ⟨g', mk, t, L, e1, e2, hq, h1, hL, h2, h3⟩, st⟩ | ⟨q, vm₁, ⟨U', l2, c2, s2⟩, hW₁, X', ⟨g', mk, t, L, E, ce, e1, e2, hq, hce, hcv, hcl, h1, hL, h2, h3⟩, st⟩
  · dsimp only [Pt.U, Pt.locs, Pt.cells, Pt.slots] at X' e1 e2 h1 h2 h3 st
    subst h1; subst h2; subst h3
    exact Or.inl ⟨v, (T.setVm vm₁).calling g' mk As.toArray, t, U', L, hT, X', hL, e1, e2, hq, st⟩
  · dsimp only [Pt.U, Pt.locs, Pt.cells, Pt.slots] at X' e1 e2 h1 h2 h3 st hcl
    subst h1; subst h2; subst h3
    exact Or.inr ⟨q, (T.setVm vm₁).calling g' mk As.toArray, t, U', L, E, ce, hT, X', hL, e1, e2, hq, hce, hcv, vx_cls hW₁ hcl, st⟩
end
end VXH
theorem vx_ofWH {l : Launch} {y : MethodName} {ws ws' : List Cond} {rm : Room} {Pc : Array Value → State → Prop} {Qc : Array Value → State → Outcome → State → Prop} {XC : String → State → State → Prop} {mc ms : Nat} {free : Addr → Prop} {cc : ByteArray} {maxL : Nat} {ret : Option FieldType} {hh : List (Nat × Nat × Nat × Nat)}
    (hy : plainName y.cls = true) (hw : ws = Cond.codeWith y cc maxL ret hh :: ws')
    (body : ∀ p e s m args below meth c s₁, BodyLoose p l y (headSpec ws rm) cc maxL ret e s m args below meth c s₁ → c.maxLocals = maxL → Pc args s →
      W p l e (headSpec ws rm).room s m args below meth c s.heap [] 0 0 (vx_MQ below Qc XC args s mc ms free) (entryFrame m args maxL)) : vx_Met l y ws rm Pc Qc XC mc ms free := by
  refine MetFree.of_bodyS (code := cc) (maxLocals := maxL) (ret := ret) hy ?_ ?_
  · intro args s m h hn
    obtain ⟨m9, meth, c, hn9, h1, h2, h3, h4, -, h5, h6, -⟩ := Cond.codeWith_spec (atoms_spec (ws := ws) h _ (by rw [hw]; exact List.mem_cons_self))
    cases hn.symm.trans hn9
    exact ⟨meth, c, h1, h2, h3, h4, h5, h6⟩
  · intro p e s m args below meth c s₁ B hml hP _
    have hh0 : s₁.heap = s.heap := by rw [B.state]; rfl
    obtain ⟨t, a1, o, b1, b2, b3⟩ := body p e s m args below meth c s₁ B hml hP s₁ hh0 (Stand.of_body B)
    exact ⟨t, o, a1, b1, b2, b3⟩
/-! ===== END ===== -/
end
section
/-! ===== BEGIN printed: names, fields, word lists, decode rows ===== -/
def RX0 : String := "PeatHearths$Land"
def TX0 : u_T := fun k => match k with
  | _ => ("PeatHearths$Land", "row", "[I", true)
def tyX0 : Nat → FieldType := fun k => match k with
  | _ => .array .int
abbrev wsX00 : List Cond := u_ws RX0 TX0 1
theorem nmX0 : ∀ a, a < 1 → ∀ b, b < 1 → a ≠ b → (TX0 a).2.1 ≠ (TX0 b).2.1 := by decide +kernel
theorem tyX0_ok : ∀ k, k < 1 → parseFieldDescriptor (TX0 k).2.2.1 = some (tyX0 k) := by decide +kernel
abbrev cX0_init : ByteArray := prog_2_method_1_code
def yX0_init : MethodName := ⟨RX0, "<init>", "()V"⟩
abbrev cX0_at : ByteArray := prog_2_method_2_code
def yX0_at : MethodName := ⟨RX0, "at", "(I)I"⟩
abbrev cX0_put : ByteArray := prog_2_method_3_code
def yX0_put : MethodName := ⟨RX0, "put", "(II)V"⟩
abbrev cX0_add : ByteArray := prog_2_method_4_code
def yX0_add : MethodName := ⟨RX0, "add", "(II)V"⟩
abbrev cX0_swap : ByteArray := prog_2_method_5_code
def yX0_swap : MethodName := ⟨RX0, "swap", "(II)I"⟩
abbrev cX0_sum : ByteArray := prog_2_method_6_code
def yX0_sum : MethodName := ⟨RX0, "sum", "(II)I"⟩
abbrev cX0_copyFrom : ByteArray := prog_2_method_7_code
def yX0_copyFrom : MethodName := ⟨RX0, "copyFrom", "(LPeatHearths$Land;)V"⟩
abbrev cX0_plotOf : ByteArray := prog_2_method_8_code
def yX0_plotOf : MethodName := ⟨RX0, "plotOf", "(II)I"⟩
abbrev cX0_sharesPlace : ByteArray := prog_2_method_9_code
def yX0_sharesPlace : MethodName := ⟨RX0, "sharesPlace", "(II)I"⟩
abbrev cX0_cuttersAt : ByteArray := prog_2_method_10_code
def yX0_cuttersAt : MethodName := ⟨RX0, "cuttersAt", "(II)I"⟩
abbrev cX0_cuttersOnBank : ByteArray := prog_2_method_11_code
def yX0_cuttersOnBank : MethodName := ⟨RX0, "cuttersOnBank", "(I)I"⟩
abbrev cX0_cuttersAtWork : ByteArray := prog_2_method_12_code
def yX0_cuttersAtWork : MethodName := ⟨RX0, "cuttersAtWork", "()I"⟩
abbrev cX0_reasonAgainst : ByteArray := prog_2_method_13_code
def yX0_reasonAgainst : MethodName := ⟨RX0, "reasonAgainst", "(II)I"⟩
abbrev cX0_setToWork : ByteArray := prog_2_method_14_code
def yX0_setToWork : MethodName := ⟨RX0, "setToWork", "(III)V"⟩
abbrev cX0_letRest : ByteArray := prog_2_method_15_code
def yX0_letRest : MethodName := ⟨RX0, "letRest", "(I)V"⟩
abbrev cX0_turnSnow : ByteArray := prog_2_method_16_code
def yX0_turnSnow : MethodName := ⟨RX0, "turnSnow", "()V"⟩
abbrev cX0_rainOf : ByteArray := prog_2_method_17_code
def yX0_rainOf : MethodName := ⟨RX0, "rainOf", "(I)I"⟩
abbrev cX0_passDays : ByteArray := prog_2_method_18_code
def yX0_passDays : MethodName := ⟨RX0, "passDays", "(I)I"⟩
abbrev cX0_cutTurves : ByteArray := prog_2_method_19_code
def yX0_cutTurves : MethodName := ⟨RX0, "cutTurves", "()V"⟩
abbrev cX0_weather : ByteArray := prog_2_method_20_code
def yX0_weather : MethodName := ⟨RX0, "weather", "(I)V"⟩
abbrev cX0_wetAgain : ByteArray := prog_2_method_21_code
def yX0_wetAgain : MethodName := ⟨RX0, "wetAgain", "(I)V"⟩
abbrev cX0_dryOut : ByteArray := prog_2_method_22_code
def yX0_dryOut : MethodName := ⟨RX0, "dryOut", "(I)V"⟩
abbrev cX0_halfRoundedUp : ByteArray := prog_2_method_23_code
def yX0_halfRoundedUp : MethodName := ⟨RX0, "halfRoundedUp", "(I)I"⟩
abbrev cX0_goCarts : ByteArray := prog_2_method_24_code
def yX0_goCarts : MethodName := ⟨RX0, "goCarts", "()I"⟩
abbrev cX0_cartHome : ByteArray := prog_2_method_25_code
def yX0_cartHome : MethodName := ⟨RX0, "cartHome", "(III)I"⟩
abbrev cX0_poorestWidow : ByteArray := prog_2_method_26_code
def yX0_poorestWidow : MethodName := ⟨RX0, "poorestWidow", "()I"⟩
abbrev cX0_burn : ByteArray := prog_2_method_27_code
def yX0_burn : MethodName := ⟨RX0, "burn", "()V"⟩
abbrev cX0_turvesOn : ByteArray := prog_2_method_28_code
def yX0_turvesOn : MethodName := ⟨RX0, "turvesOn", "(III)I"⟩
abbrev cX0_turvesOnBanks : ByteArray := prog_2_method_29_code
def yX0_turvesOnBanks : MethodName := ⟨RX0, "turvesOnBanks", "()I"⟩
abbrev cX0_shortBy : ByteArray := prog_2_method_30_code
def yX0_shortBy : MethodName := ⟨RX0, "shortBy", "(I)I"⟩
abbrev cX0_willBeShortBy : ByteArray := prog_2_method_31_code
def yX0_willBeShortBy : MethodName := ⟨RX0, "willBeShortBy", "(I)I"⟩
abbrev cX0_willBeShortByTheBook : ByteArray := prog_2_method_32_code
def yX0_willBeShortByTheBook : MethodName := ⟨RX0, "willBeShortByTheBook", "(I)I"⟩
abbrev cX0_hearthsShort : ByteArray := prog_2_method_33_code
def yX0_hearthsShort : MethodName := ⟨RX0, "hearthsShort", "()I"⟩
abbrev cX0_hearthsThatWillBeShort : ByteArray := prog_2_method_34_code
def yX0_hearthsThatWillBeShort : MethodName := ⟨RX0, "hearthsThatWillBeShort", "()I"⟩
abbrev cX0_ofHearth : ByteArray := prog_2_method_35_code
def yX0_ofHearth : MethodName := ⟨RX0, "ofHearth", "(II)I"⟩
abbrev cX0_ofBank : ByteArray := prog_2_method_36_code
def yX0_ofBank : MethodName := ⟨RX0, "ofBank", "(II)I"⟩
abbrev cX0_ofPlot : ByteArray := prog_2_method_37_code
def yX0_ofPlot : MethodName := ⟨RX0, "ofPlot", "(III)I"⟩
abbrev cX0_ofCutter : ByteArray := prog_2_method_38_code
def yX0_ofCutter : MethodName := ⟨RX0, "ofCutter", "(II)I"⟩
abbrev cX0_ofAll : ByteArray := prog_2_method_39_code
def yX0_ofAll : MethodName := ⟨RX0, "ofAll", "(I)I"⟩
def RX1 : String := "PeatHearths$Shelf"
def TX1 : u_T := fun k => match k with
  | 0 => ("PeatHearths$Shelf", "rows", "[I", true)
  | 1 => ("PeatHearths$Shelf", "most", "I", true)
  | 2 => ("PeatHearths$Shelf", "top", "I", false)
  | _ => ("PeatHearths$Shelf", "many", "I", false)
def tyX1 : Nat → FieldType := fun k => match k with
  | 0 => .array .int
  | 1 => .int
  | 2 => .int
  | _ => .int
abbrev wsX10 : List Cond := u_ws RX1 TX1 4
theorem nmX1 : ∀ a, a < 4 → ∀ b, b < 4 → a ≠ b → (TX1 a).2.1 ≠ (TX1 b).2.1 := by decide +kernel
theorem tyX1_ok : ∀ k, k < 4 → parseFieldDescriptor (TX1 k).2.2.1 = some (tyX1 k) := by decide +kernel
abbrev cX1_init : ByteArray := prog_3_method_1_code
def yX1_init : MethodName := ⟨RX1, "<init>", "(I)V"⟩
abbrev cX1_size : ByteArray := prog_3_method_2_code
def yX1_size : MethodName := ⟨RX1, "size", "()I"⟩
abbrev cX1_push : ByteArray := prog_3_method_3_code
def yX1_push : MethodName := ⟨RX1, "push", "(LPeatHearths$Land;)V"⟩
abbrev cX1_showTop : ByteArray := prog_3_method_4_code
def yX1_showTop : MethodName := ⟨RX1, "showTop", "(LPeatHearths$Land;)V"⟩
abbrev cX1_dropTop : ByteArray := prog_3_method_5_code
def yX1_dropTop : MethodName := ⟨RX1, "dropTop", "()V"⟩
abbrev cX1_isInside : ByteArray := prog_3_method_6_code
def yX1_isInside : MethodName := ⟨RX1, "isInside", "(I)Z"⟩
def RX2 : String := "PeatHearths$Text"
def TX2 : u_T := fun k => match k with
  | 0 => ("PeatHearths$Text", "signs", "[C", true)
  | _ => ("PeatHearths$Text", "length", "I", false)
def tyX2 : Nat → FieldType := fun k => match k with
  | 0 => .array .char
  | _ => .int
abbrev wsX20 : List Cond := u_ws RX2 TX2 2
theorem nmX2 : ∀ a, a < 2 → ∀ b, b < 2 → a ≠ b → (TX2 a).2.1 ≠ (TX2 b).2.1 := by decide +kernel
theorem tyX2_ok : ∀ k, k < 2 → parseFieldDescriptor (TX2 k).2.2.1 = some (tyX2 k) := by decide +kernel
abbrev cX2_init : ByteArray := prog_4_method_1_code
def yX2_init : MethodName := ⟨RX2, "<init>", "()V"⟩
abbrev cX2_length : ByteArray := prog_4_method_2_code
def yX2_length : MethodName := ⟨RX2, "length", "()I"⟩
abbrev cX2_push : ByteArray := prog_4_method_3_code
def yX2_push : MethodName := ⟨RX2, "push", "(C)V"⟩
abbrev cX2_wipe : ByteArray := prog_4_method_4_code
def yX2_wipe : MethodName := ⟨RX2, "wipe", "()V"⟩
abbrev cX2_signAt : ByteArray := prog_4_method_5_code
def yX2_signAt : MethodName := ⟨RX2, "signAt", "(I)C"⟩
abbrev cX2_rightSigns : ByteArray := prog_4_method_6_code
def yX2_rightSigns : MethodName := ⟨RX2, "rightSigns", "()I"⟩
abbrev cX2_isComplete : ByteArray := prog_4_method_7_code
def yX2_isComplete : MethodName := ⟨RX2, "isComplete", "()Z"⟩
abbrev cX2_isPartBegin : ByteArray := prog_4_method_8_code
def yX2_isPartBegin : MethodName := ⟨RX2, "isPartBegin", "(I)Z"⟩
abbrev cX2_numberAt : ByteArray := prog_4_method_9_code
def yX2_numberAt : MethodName := ⟨RX2, "numberAt", "(I)I"⟩
abbrev cX2_readNext : ByteArray := prog_4_method_10_code
def yX2_readNext : MethodName := ⟨RX2, "readNext", "(IC)I"⟩
abbrev cX2_beginPart : ByteArray := prog_4_method_11_code
def yX2_beginPart : MethodName := ⟨RX2, "beginPart", "(C)I"⟩
abbrev cX2_beginDays : ByteArray := prog_4_method_12_code
def yX2_beginDays : MethodName := ⟨RX2, "beginDays", "(C)I"⟩
abbrev cX2_endsPart : ByteArray := prog_4_method_13_code
def yX2_endsPart : MethodName := ⟨RX2, "endsPart", "(I)Z"⟩
abbrev cX2_isDigit : ByteArray := prog_4_method_14_code
def yX2_isDigit : MethodName := ⟨RX2, "isDigit", "(CI)Z"⟩
def RX3 : String := "PeatHearths"
def TX3 : u_T := fun k => match k with
  | 0 => ("PeatHearths", "land", "LPeatHearths$Land;", true)
  | 1 => ("PeatHearths", "trial", "LPeatHearths$Land;", true)
  | 2 => ("PeatHearths", "saved", "LPeatHearths$Shelf;", true)
  | 3 => ("PeatHearths", "snapshot", "LPeatHearths$Shelf;", true)
  | _ => ("PeatHearths", "text", "LPeatHearths$Text;", true)
def tyX3 : Nat → FieldType := fun k => match k with
  | 0 => .object "PeatHearths$Land"
  | 1 => .object "PeatHearths$Land"
  | 2 => .object "PeatHearths$Shelf"
  | 3 => .object "PeatHearths$Shelf"
  | _ => .object "PeatHearths$Text"
abbrev wsX30 : List Cond := u_ws RX3 TX3 5
theorem nmX3 : ∀ a, a < 5 → ∀ b, b < 5 → a ≠ b → (TX3 a).2.1 ≠ (TX3 b).2.1 := by decide +kernel
theorem tyX3_ok : ∀ k, k < 5 → parseFieldDescriptor (TX3 k).2.2.1 = some (tyX3 k) := by decide +kernel
abbrev cX3_init : ByteArray := prog_1_method_1_code
def yX3_init : MethodName := ⟨RX3, "<init>", "()V"⟩
abbrev cX3_hearth : ByteArray := prog_1_method_2_code
def yX3_hearth : MethodName := ⟨RX3, "hearth", "(IZI)I"⟩
abbrev cX3_track : ByteArray := prog_1_method_3_code
def yX3_track : MethodName := ⟨RX3, "track", "(II)I"⟩
abbrev cX3_strength : ByteArray := prog_1_method_4_code
def yX3_strength : MethodName := ⟨RX3, "strength", "(II)I"⟩
abbrev cX3_work : ByteArray := prog_1_method_5_code
def yX3_work : MethodName := ⟨RX3, "work", "(III)I"⟩
abbrev cX3_rest : ByteArray := prog_1_method_6_code
def yX3_rest : MethodName := ⟨RX3, "rest", "(I)I"⟩
abbrev cX3_give : ByteArray := prog_1_method_7_code
def yX3_give : MethodName := ⟨RX3, "give", "(IIII)I"⟩
abbrev cX3_snow : ByteArray := prog_1_method_8_code
def yX3_snow : MethodName := ⟨RX3, "snow", "()I"⟩
abbrev cX3_pass : ByteArray := prog_1_method_9_code
def yX3_pass : MethodName := ⟨RX3, "pass", "(I)I"⟩
abbrev cX3_set : ByteArray := prog_1_method_10_code
def yX3_set : MethodName := ⟨RX3, "set", "(II)I"⟩
abbrev cX3_append : ByteArray := prog_1_method_11_code
def yX3_append : MethodName := ⟨RX3, "append", "(I)I"⟩
abbrev cX3_clearBuffer : ByteArray := prog_1_method_12_code
def yX3_clearBuffer : MethodName := ⟨RX3, "clearBuffer", "()I"⟩
abbrev cX3_firstError : ByteArray := prog_1_method_13_code
def yX3_firstError : MethodName := ⟨RX3, "firstError", "()I"⟩
abbrev cX3_play : ByteArray := prog_1_method_14_code
def yX3_play : MethodName := ⟨RX3, "play", "()I"⟩
abbrev cX3_undo : ByteArray := prog_1_method_15_code
def yX3_undo : MethodName := ⟨RX3, "undo", "()I"⟩
abbrev cX3_keep : ByteArray := prog_1_method_16_code
def yX3_keep : MethodName := ⟨RX3, "keep", "()I"⟩
abbrev cX3_restore : ByteArray := prog_1_method_17_code
def yX3_restore : MethodName := ⟨RX3, "restore", "()I"⟩
abbrev cX3_hearthOf : ByteArray := prog_1_method_18_code
def yX3_hearthOf : MethodName := ⟨RX3, "hearthOf", "(II)I"⟩
abbrev cX3_bankOf : ByteArray := prog_1_method_19_code
def yX3_bankOf : MethodName := ⟨RX3, "bankOf", "(II)I"⟩
abbrev cX3_plot : ByteArray := prog_1_method_20_code
def yX3_plot : MethodName := ⟨RX3, "plot", "(III)I"⟩
abbrev cX3_cutter : ByteArray := prog_1_method_21_code
def yX3_cutter : MethodName := ⟨RX3, "cutter", "(II)I"⟩
abbrev cX3_rain : ByteArray := prog_1_method_22_code
def yX3_rain : MethodName := ⟨RX3, "rain", "(I)I"⟩
abbrev cX3_count : ByteArray := prog_1_method_23_code
def yX3_count : MethodName := ⟨RX3, "count", "(I)I"⟩
abbrev cX3_whyNot : ByteArray := prog_1_method_24_code
def yX3_whyNot : MethodName := ⟨RX3, "whyNot", "(III)I"⟩
abbrev cX3_ifPassed : ByteArray := prog_1_method_25_code
def yX3_ifPassed : MethodName := ⟨RX3, "ifPassed", "(II)I"⟩
abbrev cX3_enoughIn : ByteArray := prog_1_method_26_code
def yX3_enoughIn : MethodName := ⟨RX3, "enoughIn", "(I)I"⟩
abbrev cX3_bestBank : ByteArray := prog_1_method_27_code
def yX3_bestBank : MethodName := ⟨RX3, "bestBank", "(II)I"⟩
abbrev cX3_dryness : ByteArray := prog_1_method_28_code
def yX3_dryness : MethodName := ⟨RX3, "dryness", "()D"⟩
abbrev cX3_digest : ByteArray := prog_1_method_29_code
def yX3_digest : MethodName := ⟨RX3, "digest", "()J"⟩
abbrev cX3_bitsOf : ByteArray := prog_1_method_30_code
def yX3_bitsOf : MethodName := ⟨RX3, "bitsOf", "(D)J"⟩
abbrev cX3_playPart : ByteArray := prog_1_method_31_code
def yX3_playPart : MethodName := ⟨RX3, "playPart", "(I)Z"⟩
abbrev cX3_requireIndex : ByteArray := prog_1_method_32_code
def yX3_requireIndex : MethodName := ⟨RX3, "requireIndex", "(II)V"⟩
abbrev cX3_requireHolder : ByteArray := prog_1_method_33_code
def yX3_requireHolder : MethodName := ⟨RX3, "requireHolder", "(I)V"⟩
abbrev cX3_requireRange : ByteArray := prog_1_method_34_code
def yX3_requireRange : MethodName := ⟨RX3, "requireRange", "(III)V"⟩
abbrev cX3_requireArgument : ByteArray := prog_1_method_35_code
def yX3_requireArgument : MethodName := ⟨RX3, "requireArgument", "(Z)V"⟩
abbrev cX3_requireState : ByteArray := prog_1_method_36_code
def yX3_requireState : MethodName := ⟨RX3, "requireState", "(Z)V"⟩
def RX4 : String := "PeatHearthsModel"
def TX4 : u_T := fun k => match k with
  | 0 => ("PeatHearthsModel", "thrown", "I", false)
  | 1 => ("PeatHearthsModel", "state", "[I", true)
  | 2 => ("PeatHearthsModel", "spare", "[I", true)
  | 3 => ("PeatHearthsModel", "saved", "[I", true)
  | 4 => ("PeatHearthsModel", "savedMany", "I", false)
  | 5 => ("PeatHearthsModel", "snapshot", "[I", true)
  | 6 => ("PeatHearthsModel", "hasSnapshot", "Z", false)
  | 7 => ("PeatHearthsModel", "buffer", "[I", true)
  | 8 => ("PeatHearthsModel", "length", "I", false)
  | 9 => ("PeatHearthsModel", "at", "I", false)
  | 10 => ("PeatHearthsModel", "sign", "I", false)
  | 11 => ("PeatHearthsModel", "first", "I", false)
  | 12 => ("PeatHearthsModel", "second", "I", false)
  | 13 => ("PeatHearthsModel", "third", "I", false)
  | _ => ("PeatHearthsModel", "hash", "J", false)
def tyX4 : Nat → FieldType := fun k => match k with
  | 0 => .int
  | 1 => .array .int
  | 2 => .array .int
  | 3 => .array .int
  | 4 => .int
  | 5 => .array .int
  | 6 => .boolean
  | 7 => .array .int
  | 8 => .int
  | 9 => .int
  | 10 => .int
  | 11 => .int
  | 12 => .int
  | 13 => .int
  | _ => .long
abbrev wsX40 : List Cond := u_ws RX4 TX4 15
theorem nmX4 : ∀ a, a < 15 → ∀ b, b < 15 → a ≠ b → (TX4 a).2.1 ≠ (TX4 b).2.1 := by decide +kernel
theorem tyX4_ok : ∀ k, k < 15 → parseFieldDescriptor (TX4 k).2.2.1 = some (tyX4 k) := by decide +kernel
abbrev cX4_init : ByteArray := prog_6_method_1_code
def yX4_init : MethodName := ⟨RX4, "<init>", "()V"⟩
abbrev cX4_thrown : ByteArray := prog_6_method_2_code
def yX4_thrown : MethodName := ⟨RX4, "thrown", "()I"⟩
abbrev cX4_fails : ByteArray := prog_6_method_3_code
def yX4_fails : MethodName := ⟨RX4, "fails", "(I)I"⟩
abbrev cX4_within : ByteArray := prog_6_method_4_code
def yX4_within : MethodName := ⟨RX4, "within", "(III)Z"⟩
abbrev cX4_isHearth : ByteArray := prog_6_method_5_code
def yX4_isHearth : MethodName := ⟨RX4, "isHearth", "(I)Z"⟩
abbrev cX4_isBank : ByteArray := prog_6_method_6_code
def yX4_isBank : MethodName := ⟨RX4, "isBank", "(I)Z"⟩
abbrev cX4_isCutter : ByteArray := prog_6_method_7_code
def yX4_isCutter : MethodName := ⟨RX4, "isCutter", "(I)Z"⟩
abbrev cX4_less : ByteArray := prog_6_method_8_code
def yX4_less : MethodName := ⟨RX4, "less", "(II)I"⟩
abbrev cX4_save : ByteArray := prog_6_method_9_code
def yX4_save : MethodName := ⟨RX4, "save", "()V"⟩
abbrev cX4_undo : ByteArray := prog_6_method_10_code
def yX4_undo : MethodName := ⟨RX4, "undo", "()I"⟩
abbrev cX4_keep : ByteArray := prog_6_method_11_code
def yX4_keep : MethodName := ⟨RX4, "keep", "()I"⟩
abbrev cX4_restore : ByteArray := prog_6_method_12_code
def yX4_restore : MethodName := ⟨RX4, "restore", "()I"⟩
abbrev cX4_putAside : ByteArray := prog_6_method_13_code
def yX4_putAside : MethodName := ⟨RX4, "putAside", "()V"⟩
abbrev cX4_takeBack : ByteArray := prog_6_method_14_code
def yX4_takeBack : MethodName := ⟨RX4, "takeBack", "()V"⟩
abbrev cX4_rainOf : ByteArray := prog_6_method_15_code
def yX4_rainOf : MethodName := ⟨RX4, "rainOf", "(I)I"⟩
abbrev cX4_cutAll : ByteArray := prog_6_method_16_code
def yX4_cutAll : MethodName := ⟨RX4, "cutAll", "()V"⟩
abbrev cX4_soak : ByteArray := prog_6_method_17_code
def yX4_soak : MethodName := ⟨RX4, "soak", "(I)V"⟩
abbrev cX4_dry : ByteArray := prog_6_method_18_code
def yX4_dry : MethodName := ⟨RX4, "dry", "(I)V"⟩
abbrev cX4_poorest : ByteArray := prog_6_method_19_code
def yX4_poorest : MethodName := ⟨RX4, "poorest", "()I"⟩
abbrev cX4_bringHome : ByteArray := prog_6_method_20_code
def yX4_bringHome : MethodName := ⟨RX4, "bringHome", "(III)V"⟩
abbrev cX4_cart : ByteArray := prog_6_method_21_code
def yX4_cart : MethodName := ⟨RX4, "cart", "(I)I"⟩
abbrev cX4_burnAll : ByteArray := prog_6_method_22_code
def yX4_burnAll : MethodName := ⟨RX4, "burnAll", "()V"⟩
abbrev cX4_passOne : ByteArray := prog_6_method_23_code
def yX4_passOne : MethodName := ⟨RX4, "passOne", "()I"⟩
abbrev cX4_passes : ByteArray := prog_6_method_24_code
def yX4_passes : MethodName := ⟨RX4, "passes", "(I)I"⟩
abbrev cX4_commons : ByteArray := prog_6_method_25_code
def yX4_commons : MethodName := ⟨RX4, "commons", "(I)I"⟩
abbrev cX4_sharesOf : ByteArray := prog_6_method_26_code
def yX4_sharesOf : MethodName := ⟨RX4, "sharesOf", "(II)I"⟩
abbrev cX4_workers : ByteArray := prog_6_method_27_code
def yX4_workers : MethodName := ⟨RX4, "workers", "(II)I"⟩
abbrev cX4_workersOn : ByteArray := prog_6_method_28_code
def yX4_workersOn : MethodName := ⟨RX4, "workersOn", "(I)I"⟩
abbrev cX4_allWorkers : ByteArray := prog_6_method_29_code
def yX4_allWorkers : MethodName := ⟨RX4, "allWorkers", "()I"⟩
abbrev cX4_turvesOn : ByteArray := prog_6_method_30_code
def yX4_turvesOn : MethodName := ⟨RX4, "turvesOn", "(II)I"⟩
abbrev cX4_ofHearth : ByteArray := prog_6_method_31_code
def yX4_ofHearth : MethodName := ⟨RX4, "ofHearth", "(I)I"⟩
abbrev cX4_lieOn : ByteArray := prog_6_method_32_code
def yX4_lieOn : MethodName := ⟨RX4, "lieOn", "(I)I"⟩
abbrev cX4_atLeastNone : ByteArray := prog_6_method_33_code
def yX4_atLeastNone : MethodName := ⟨RX4, "atLeastNone", "(I)I"⟩
abbrev cX4_shortNow : ByteArray := prog_6_method_34_code
def yX4_shortNow : MethodName := ⟨RX4, "shortNow", "(I)I"⟩
abbrev cX4_shortThen : ByteArray := prog_6_method_35_code
def yX4_shortThen : MethodName := ⟨RX4, "shortThen", "(I)I"⟩
abbrev cX4_shortByBook : ByteArray := prog_6_method_36_code
def yX4_shortByBook : MethodName := ⟨RX4, "shortByBook", "(I)I"⟩
abbrev cX4_reason : ByteArray := prog_6_method_37_code
def yX4_reason : MethodName := ⟨RX4, "reason", "(II)I"⟩
abbrev cX4_setToWork : ByteArray := prog_6_method_38_code
def yX4_setToWork : MethodName := ⟨RX4, "setToWork", "(III)V"⟩
abbrev cX4_turnSnow : ByteArray := prog_6_method_39_code
def yX4_turnSnow : MethodName := ⟨RX4, "turnSnow", "()I"⟩
abbrev cX4_hearth : ByteArray := prog_6_method_40_code
def yX4_hearth : MethodName := ⟨RX4, "hearth", "(IZI)I"⟩
abbrev cX4_track : ByteArray := prog_6_method_41_code
def yX4_track : MethodName := ⟨RX4, "track", "(II)I"⟩
abbrev cX4_strength : ByteArray := prog_6_method_42_code
def yX4_strength : MethodName := ⟨RX4, "strength", "(II)I"⟩
abbrev cX4_work : ByteArray := prog_6_method_43_code
def yX4_work : MethodName := ⟨RX4, "work", "(III)I"⟩
abbrev cX4_rest : ByteArray := prog_6_method_44_code
def yX4_rest : MethodName := ⟨RX4, "rest", "(I)I"⟩
abbrev cX4_give : ByteArray := prog_6_method_45_code
def yX4_give : MethodName := ⟨RX4, "give", "(IIII)I"⟩
abbrev cX4_snow : ByteArray := prog_6_method_46_code
def yX4_snow : MethodName := ⟨RX4, "snow", "()I"⟩
abbrev cX4_pass : ByteArray := prog_6_method_47_code
def yX4_pass : MethodName := ⟨RX4, "pass", "(I)I"⟩
abbrev cX4_leastOf : ByteArray := prog_6_method_48_code
def yX4_leastOf : MethodName := ⟨RX4, "leastOf", "(I)I"⟩
abbrev cX4_mostOf : ByteArray := prog_6_method_49_code
def yX4_mostOf : MethodName := ⟨RX4, "mostOf", "(I)I"⟩
abbrev cX4_set : ByteArray := prog_6_method_50_code
def yX4_set : MethodName := ⟨RX4, "set", "(II)I"⟩
abbrev cX4_append : ByteArray := prog_6_method_51_code
def yX4_append : MethodName := ⟨RX4, "append", "(I)I"⟩
abbrev cX4_clearBuffer : ByteArray := prog_6_method_52_code
def yX4_clearBuffer : MethodName := ⟨RX4, "clearBuffer", "()I"⟩
abbrev cX4_next : ByteArray := prog_6_method_53_code
def yX4_next : MethodName := ⟨RX4, "next", "()I"⟩
abbrev cX4_takes : ByteArray := prog_6_method_54_code
def yX4_takes : MethodName := ⟨RX4, "takes", "(I)Z"⟩
abbrev cX4_takeDigit : ByteArray := prog_6_method_55_code
def yX4_takeDigit : MethodName := ⟨RX4, "takeDigit", "(I)I"⟩
abbrev cX4_readsWork : ByteArray := prog_6_method_56_code
def yX4_readsWork : MethodName := ⟨RX4, "readsWork", "()Z"⟩
abbrev cX4_readsDays : ByteArray := prog_6_method_57_code
def yX4_readsDays : MethodName := ⟨RX4, "readsDays", "()Z"⟩
abbrev cX4_readsPart : ByteArray := prog_6_method_58_code
def yX4_readsPart : MethodName := ⟨RX4, "readsPart", "()Z"⟩
abbrev cX4_findError : ByteArray := prog_6_method_59_code
def yX4_findError : MethodName := ⟨RX4, "findError", "()I"⟩
abbrev cX4_firstError : ByteArray := prog_6_method_60_code
def yX4_firstError : MethodName := ⟨RX4, "firstError", "()I"⟩
abbrev cX4_doesPart : ByteArray := prog_6_method_61_code
def yX4_doesPart : MethodName := ⟨RX4, "doesPart", "()Z"⟩
abbrev cX4_play : ByteArray := prog_6_method_62_code
def yX4_play : MethodName := ⟨RX4, "play", "()I"⟩
abbrev cX4_tellsHearth : ByteArray := prog_6_method_63_code
def yX4_tellsHearth : MethodName := ⟨RX4, "tellsHearth", "(II)I"⟩
abbrev cX4_hearthOf : ByteArray := prog_6_method_64_code
def yX4_hearthOf : MethodName := ⟨RX4, "hearthOf", "(II)I"⟩
abbrev cX4_tellsBank : ByteArray := prog_6_method_65_code
def yX4_tellsBank : MethodName := ⟨RX4, "tellsBank", "(II)I"⟩
abbrev cX4_bankOf : ByteArray := prog_6_method_66_code
def yX4_bankOf : MethodName := ⟨RX4, "bankOf", "(II)I"⟩
abbrev cX4_tellsPlot : ByteArray := prog_6_method_67_code
def yX4_tellsPlot : MethodName := ⟨RX4, "tellsPlot", "(III)I"⟩
abbrev cX4_plot : ByteArray := prog_6_method_68_code
def yX4_plot : MethodName := ⟨RX4, "plot", "(III)I"⟩
abbrev cX4_tellsCutter : ByteArray := prog_6_method_69_code
def yX4_tellsCutter : MethodName := ⟨RX4, "tellsCutter", "(II)I"⟩
abbrev cX4_cutter : ByteArray := prog_6_method_70_code
def yX4_cutter : MethodName := ⟨RX4, "cutter", "(II)I"⟩
abbrev cX4_rain : ByteArray := prog_6_method_71_code
def yX4_rain : MethodName := ⟨RX4, "rain", "(I)I"⟩
abbrev cX4_sumOf : ByteArray := prog_6_method_72_code
def yX4_sumOf : MethodName := ⟨RX4, "sumOf", "(II)I"⟩
abbrev cX4_shortHearths : ByteArray := prog_6_method_73_code
def yX4_shortHearths : MethodName := ⟨RX4, "shortHearths", "(Z)I"⟩
abbrev cX4_tellsCount : ByteArray := prog_6_method_74_code
def yX4_tellsCount : MethodName := ⟨RX4, "tellsCount", "(I)I"⟩
abbrev cX4_count : ByteArray := prog_6_method_75_code
def yX4_count : MethodName := ⟨RX4, "count", "(I)I"⟩
abbrev cX4_whyNot : ByteArray := prog_6_method_76_code
def yX4_whyNot : MethodName := ⟨RX4, "whyNot", "(III)I"⟩
abbrev cX4_wouldPass : ByteArray := prog_6_method_77_code
def yX4_wouldPass : MethodName := ⟨RX4, "wouldPass", "(II)I"⟩
abbrev cX4_ifPassed : ByteArray := prog_6_method_78_code
def yX4_ifPassed : MethodName := ⟨RX4, "ifPassed", "(II)I"⟩
abbrev cX4_daysUntil : ByteArray := prog_6_method_79_code
def yX4_daysUntil : MethodName := ⟨RX4, "daysUntil", "(I)I"⟩
abbrev cX4_enoughIn : ByteArray := prog_6_method_80_code
def yX4_enoughIn : MethodName := ⟨RX4, "enoughIn", "(I)I"⟩
abbrev cX4_homeWith : ByteArray := prog_6_method_81_code
def yX4_homeWith : MethodName := ⟨RX4, "homeWith", "(III)I"⟩
abbrev cX4_bestFor : ByteArray := prog_6_method_82_code
def yX4_bestFor : MethodName := ⟨RX4, "bestFor", "(II)I"⟩
abbrev cX4_bestBank : ByteArray := prog_6_method_83_code
def yX4_bestBank : MethodName := ⟨RX4, "bestBank", "(II)I"⟩
abbrev cX4_share : ByteArray := prog_6_method_84_code
def yX4_share : MethodName := ⟨RX4, "share", "()D"⟩
abbrev cX4_dryness : ByteArray := prog_6_method_85_code
def yX4_dryness : MethodName := ⟨RX4, "dryness", "()D"⟩
abbrev cX4_mix : ByteArray := prog_6_method_86_code
def yX4_mix : MethodName := ⟨RX4, "mix", "(J)V"⟩
abbrev cX4_mixHearth : ByteArray := prog_6_method_87_code
def yX4_mixHearth : MethodName := ⟨RX4, "mixHearth", "(I)V"⟩
abbrev cX4_digest : ByteArray := prog_6_method_88_code
def yX4_digest : MethodName := ⟨RX4, "digest", "()J"⟩
def RJxe99ae : String := "java/lang/Double"
def TJxe99ae : u_T := fun k => match k with
  | _ => ("", "", "", false)
def tyJxe99ae : Nat → FieldType := fun k => match k with
  | _ => .int
abbrev wsJxe99ae0 : List Cond := u_ws RJxe99ae TJxe99ae 0
theorem nmJxe99ae : ∀ a, a < 0 → ∀ b, b < 0 → a ≠ b → (TJxe99ae a).2.1 ≠ (TJxe99ae b).2.1 := by decide +kernel
theorem tyJxe99ae_ok : ∀ k, k < 0 → parseFieldDescriptor (TJxe99ae k).2.2.1 = some (tyJxe99ae k) := by decide +kernel
abbrev cJxe99ae_isNaN_b9ae7 : ByteArray := prog_7_method_6_code
def yJxe99ae_isNaN_b9ae7 : MethodName := ⟨RJxe99ae, "isNaN", "(D)Z"⟩
abbrev cJxe99ae_doubleToLongBits_ccdee : ByteArray := prog_7_method_23_code
def yJxe99ae_doubleToLongBits_ccdee : MethodName := ⟨RJxe99ae, "doubleToLongBits", "(D)J"⟩
def RJ9 : String := "java/lang/Math"
def TJ9 : u_T := fun k => match k with
  | _ => ("", "", "", false)
def tyJ9 : Nat → FieldType := fun k => match k with
  | _ => .int
abbrev wsJ90 : List Cond := u_ws RJ9 TJ9 0
theorem nmJ9 : ∀ a, a < 0 → ∀ b, b < 0 → a ≠ b → (TJ9 a).2.1 ≠ (TJ9 b).2.1 := by decide +kernel
theorem tyJ9_ok : ∀ k, k < 0 → parseFieldDescriptor (TJ9 k).2.2.1 = some (tyJ9 k) := by decide +kernel
abbrev cJ9_floorMod_7cf53 : ByteArray := prog_12_method_50_code
def yJ9_floorMod_7cf53 : MethodName := ⟨RJ9, "floorMod", "(II)I"⟩
abbrev cJ9_max_7cf53 : ByteArray := prog_12_method_65_code
def yJ9_max_7cf53 : MethodName := ⟨RJ9, "max", "(II)I"⟩
abbrev cJ9_min_7cf53 : ByteArray := prog_12_method_69_code
def yJ9_min_7cf53 : MethodName := ⟨RJ9, "min", "(II)I"⟩
def RJ0 : String := "java/lang/String"
def TJ0 : u_T := fun k => match k with
  | _ => ("", "", "", false)
def tyJ0 : Nat → FieldType := fun k => match k with
  | _ => .int
abbrev wsJ00 : List Cond := u_ws RJ0 TJ0 0
theorem nmJ0 : ∀ a, a < 0 → ∀ b, b < 0 → a ≠ b → (TJ0 a).2.1 ≠ (TJ0 b).2.1 := by decide +kernel
theorem tyJ0_ok : ∀ k, k < 0 → parseFieldDescriptor (TJ0 k).2.2.1 = some (tyJ0 k) := by decide +kernel
def RL : String := "PeatHearthsLaw"
abbrev cL_hearth : ByteArray := method_3_code
def yL_hearth : MethodName := ⟨RL, "hearth", "(LPeatHearths;IZI[J)I"⟩
abbrev cL_track : ByteArray := method_4_code
def yL_track : MethodName := ⟨RL, "track", "(LPeatHearths;II[J)I"⟩
abbrev cL_strength : ByteArray := method_5_code
def yL_strength : MethodName := ⟨RL, "strength", "(LPeatHearths;II[J)I"⟩
abbrev cL_work : ByteArray := method_6_code
def yL_work : MethodName := ⟨RL, "work", "(LPeatHearths;III[J)I"⟩
abbrev cL_rest : ByteArray := method_7_code
def yL_rest : MethodName := ⟨RL, "rest", "(LPeatHearths;I[J)I"⟩
abbrev cL_give : ByteArray := method_8_code
def yL_give : MethodName := ⟨RL, "give", "(LPeatHearths;IIII[J)I"⟩
abbrev cL_pass : ByteArray := method_9_code
def yL_pass : MethodName := ⟨RL, "pass", "(LPeatHearths;I[J)I"⟩
abbrev cL_set : ByteArray := method_10_code
def yL_set : MethodName := ⟨RL, "set", "(LPeatHearths;II[J)I"⟩
abbrev cL_append : ByteArray := method_11_code
def yL_append : MethodName := ⟨RL, "append", "(LPeatHearths;I[J)I"⟩
abbrev cL_play : ByteArray := method_12_code
def yL_play : MethodName := ⟨RL, "play", "(LPeatHearths;[J)I"⟩
abbrev cL_undo : ByteArray := method_13_code
def yL_undo : MethodName := ⟨RL, "undo", "(LPeatHearths;[J)I"⟩
abbrev cL_restore : ByteArray := method_14_code
def yL_restore : MethodName := ⟨RL, "restore", "(LPeatHearths;[J)I"⟩
abbrev cL_hearthOf : ByteArray := method_15_code
def yL_hearthOf : MethodName := ⟨RL, "hearthOf", "(LPeatHearths;II[J)I"⟩
abbrev cL_bankOf : ByteArray := method_16_code
def yL_bankOf : MethodName := ⟨RL, "bankOf", "(LPeatHearths;II[J)I"⟩
abbrev cL_plot : ByteArray := method_17_code
def yL_plot : MethodName := ⟨RL, "plot", "(LPeatHearths;III[J)I"⟩
abbrev cL_cutter : ByteArray := method_18_code
def yL_cutter : MethodName := ⟨RL, "cutter", "(LPeatHearths;II[J)I"⟩
abbrev cL_rain : ByteArray := method_19_code
def yL_rain : MethodName := ⟨RL, "rain", "(LPeatHearths;I[J)I"⟩
abbrev cL_count : ByteArray := method_20_code
def yL_count : MethodName := ⟨RL, "count", "(LPeatHearths;I[J)I"⟩
abbrev cL_whyNot : ByteArray := method_21_code
def yL_whyNot : MethodName := ⟨RL, "whyNot", "(LPeatHearths;III[J)I"⟩
abbrev cL_ifPassed : ByteArray := method_22_code
def yL_ifPassed : MethodName := ⟨RL, "ifPassed", "(LPeatHearths;II[J)I"⟩
abbrev cL_enoughIn : ByteArray := method_23_code
def yL_enoughIn : MethodName := ⟨RL, "enoughIn", "(LPeatHearths;I[J)I"⟩
abbrev cL_bestBank : ByteArray := method_24_code
def yL_bestBank : MethodName := ⟨RL, "bestBank", "(LPeatHearths;II[J)I"⟩
abbrev cL_law : ByteArray := code
def yL_law : MethodName := ⟨RL, "law", "([I)Z"⟩
def wsX0_put : List Cond := .code yX0_put cX0_put 3 none :: ([.fieldLink RX0 11 "PeatHearths$Land" "row" "[I"] ++ wsX00)
def wsX0_plotOf : List Cond := .code yX0_plotOf cX0_plotOf 2 (some .int) :: ([])
def wsX0_at : List Cond := .code yX0_at cX0_at 2 (some .int) :: ([.fieldLink RX0 11 "PeatHearths$Land" "row" "[I"] ++ wsX00)
def wsX0_add : List Cond := .code yX0_add cX0_add 3 none :: ([.methodLink RX0 30 yX0_at, .instanceMethod yX0_at, .selects RX0 yX0_at yX0_at, .initialized RX0, .code yX0_at cX0_at 2 (some .int), .fieldLink RX0 11 "PeatHearths$Land" "row" "[I", .methodLink RX0 15 yX0_put, .instanceMethod yX0_put, .selects RX0 yX0_put yX0_put, .code yX0_put cX0_put 3 none] ++ wsX00)
def wsX0_setToWork : List Cond := .code yX0_setToWork cX0_setToWork 4 none :: ([.methodLink RX0 15 yX0_put, .instanceMethod yX0_put, .selects RX0 yX0_put yX0_put, .initialized RX0, .code yX0_put cX0_put 3 none, .fieldLink RX0 11 "PeatHearths$Land" "row" "[I"] ++ wsX00)
def wsX0_letRest : List Cond := .code yX0_letRest cX0_letRest 2 none :: ([.methodLink RX0 40 yX0_setToWork, .instanceMethod yX0_setToWork, .selects RX0 yX0_setToWork yX0_setToWork, .initialized RX0, .code yX0_setToWork cX0_setToWork 4 none, .methodLink RX0 15 yX0_put, .instanceMethod yX0_put, .selects RX0 yX0_put yX0_put, .code yX0_put cX0_put 3 none, .fieldLink RX0 11 "PeatHearths$Land" "row" "[I"] ++ wsX00)
def wsX0_init_r1 : List Cond := [Cond.methodLink RX0 5 objectInit, Cond.instanceMethod objectInit, Cond.code objectInit ⟨#[0xb1]⟩ 1 none, Cond.arrayClass .int, Cond.fieldLink RX0 11 "PeatHearths$Land" "row" "[I", Cond.methodLink RX0 15 yX0_put, Cond.instanceMethod yX0_put, Cond.selects RX0 yX0_put yX0_put, Cond.initialized RX0, Cond.code yX0_put cX0_put 3 none, Cond.methodLink RX0 19 yX0_plotOf, Cond.static yX0_plotOf, Cond.code yX0_plotOf cX0_plotOf 2 (some .int), Cond.methodLink RX0 23 yX0_add, Cond.instanceMethod yX0_add, Cond.selects RX0 yX0_add yX0_add, Cond.code yX0_add cX0_add 3 none, Cond.methodLink RX0 30 yX0_at, Cond.instanceMethod yX0_at, Cond.selects RX0 yX0_at yX0_at, Cond.code yX0_at cX0_at 2 (some .int), Cond.methodLink RX0 26 yX0_letRest, Cond.instanceMethod yX0_letRest, Cond.selects RX0 yX0_letRest yX0_letRest]
def wsX0_init_r2 : List Cond := [Cond.code yX0_letRest cX0_letRest 2 none, Cond.methodLink RX0 40 yX0_setToWork, Cond.instanceMethod yX0_setToWork, Cond.selects RX0 yX0_setToWork yX0_setToWork, Cond.code yX0_setToWork cX0_setToWork 4 none]
def wsX0_init : List Cond := .code yX0_init cX0_init 3 none :: ((wsX0_init_r1 ++ wsX0_init_r2) ++ wsX00)
def wsX0_swap : List Cond := .code yX0_swap cX0_swap 4 (some .int) :: ([.methodLink RX0 30 yX0_at, .instanceMethod yX0_at, .selects RX0 yX0_at yX0_at, .initialized RX0, .code yX0_at cX0_at 2 (some .int), .fieldLink RX0 11 "PeatHearths$Land" "row" "[I", .methodLink RX0 15 yX0_put, .instanceMethod yX0_put, .selects RX0 yX0_put yX0_put, .code yX0_put cX0_put 3 none] ++ wsX00)
def wsX0_sum : List Cond := .code yX0_sum cX0_sum 5 (some .int) :: ([.methodLink RX0 30 yX0_at, .instanceMethod yX0_at, .selects RX0 yX0_at yX0_at, .initialized RX0, .code yX0_at cX0_at 2 (some .int), .fieldLink RX0 11 "PeatHearths$Land" "row" "[I"] ++ wsX00)
def wsX0_copyFrom : List Cond := .code yX0_copyFrom cX0_copyFrom 3 none :: ([.methodLink RX0 30 yX0_at, .instanceMethod yX0_at, .selects RX0 yX0_at yX0_at, .initialized RX0, .code yX0_at cX0_at 2 (some .int), .fieldLink RX0 11 "PeatHearths$Land" "row" "[I", .methodLink RX0 15 yX0_put, .instanceMethod yX0_put, .selects RX0 yX0_put yX0_put, .code yX0_put cX0_put 3 none] ++ wsX00)
def wsX0_sharesPlace : List Cond := .code yX0_sharesPlace cX0_sharesPlace 2 (some .int) :: ([.methodLink RX0 19 yX0_plotOf, .static yX0_plotOf, .initialized RX0, .code yX0_plotOf cX0_plotOf 2 (some .int)])
def wsX0_cuttersAt : List Cond := .code yX0_cuttersAt cX0_cuttersAt 5 (some .int) :: ([.methodLink RX0 30 yX0_at, .instanceMethod yX0_at, .selects RX0 yX0_at yX0_at, .initialized RX0, .code yX0_at cX0_at 2 (some .int), .fieldLink RX0 11 "PeatHearths$Land" "row" "[I"] ++ wsX00)
def wsX0_cuttersOnBank : List Cond := .code yX0_cuttersOnBank cX0_cuttersOnBank 4 (some .int) :: ([.methodLink RX0 34 yX0_cuttersAt, .instanceMethod yX0_cuttersAt, .selects RX0 yX0_cuttersAt yX0_cuttersAt, .initialized RX0, .code yX0_cuttersAt cX0_cuttersAt 5 (some .int), .methodLink RX0 30 yX0_at, .instanceMethod yX0_at, .selects RX0 yX0_at yX0_at, .code yX0_at cX0_at 2 (some .int), .fieldLink RX0 11 "PeatHearths$Land" "row" "[I"] ++ wsX00)
def wsX0_cuttersAtWork : List Cond := .code yX0_cuttersAtWork cX0_cuttersAtWork 3 (some .int) :: ([.methodLink RX0 37 yX0_cuttersOnBank, .instanceMethod yX0_cuttersOnBank, .selects RX0 yX0_cuttersOnBank yX0_cuttersOnBank, .initialized RX0, .code yX0_cuttersOnBank cX0_cuttersOnBank 4 (some .int), .methodLink RX0 34 yX0_cuttersAt, .instanceMethod yX0_cuttersAt, .selects RX0 yX0_cuttersAt yX0_cuttersAt, .code yX0_cuttersAt cX0_cuttersAt 5 (some .int), .methodLink RX0 30 yX0_at, .instanceMethod yX0_at, .selects RX0 yX0_at yX0_at, .code yX0_at cX0_at 2 (some .int), .fieldLink RX0 11 "PeatHearths$Land" "row" "[I"] ++ wsX00)
def wsX0_reasonAgainst : List Cond := .code yX0_reasonAgainst cX0_reasonAgainst 4 (some .int) :: ([.methodLink RX0 19 yX0_plotOf, .static yX0_plotOf, .initialized RX0, .code yX0_plotOf cX0_plotOf 2 (some .int), .methodLink RX0 30 yX0_at, .instanceMethod yX0_at, .selects RX0 yX0_at yX0_at, .code yX0_at cX0_at 2 (some .int), .fieldLink RX0 11 "PeatHearths$Land" "row" "[I", .methodLink RX0 34 yX0_cuttersAt, .instanceMethod yX0_cuttersAt, .selects RX0 yX0_cuttersAt yX0_cuttersAt, .code yX0_cuttersAt cX0_cuttersAt 5 (some .int)] ++ wsX00)
def wsX0_turnSnow : List Cond := .code yX0_turnSnow cX0_turnSnow 2 none :: ([.methodLink RX0 30 yX0_at, .instanceMethod yX0_at, .selects RX0 yX0_at yX0_at, .initialized RX0, .code yX0_at cX0_at 2 (some .int), .fieldLink RX0 11 "PeatHearths$Land" "row" "[I", .methodLink RX0 15 yX0_put, .instanceMethod yX0_put, .selects RX0 yX0_put yX0_put, .code yX0_put cX0_put 3 none, .methodLink RX0 26 yX0_letRest, .instanceMethod yX0_letRest, .selects RX0 yX0_letRest yX0_letRest, .code yX0_letRest cX0_letRest 2 none, .methodLink RX0 40 yX0_setToWork, .instanceMethod yX0_setToWork, .selects RX0 yX0_setToWork yX0_setToWork, .code yX0_setToWork cX0_setToWork 4 none] ++ wsX00)
def wsJ9_floorMod_7cf53 : List Cond := .code yJ9_floorMod_7cf53 cJ9_floorMod_7cf53 3 (some .int) :: ([])
def wsX0_rainOf : List Cond := .code yX0_rainOf cX0_rainOf 2 (some .int) :: ([.methodLink RX0 44 yJ9_floorMod_7cf53, .static yJ9_floorMod_7cf53, .initialized RJ9, .code yJ9_floorMod_7cf53 cJ9_floorMod_7cf53 3 (some .int), .methodLink RX0 30 yX0_at, .instanceMethod yX0_at, .selects RX0 yX0_at yX0_at, .initialized RX0, .code yX0_at cX0_at 2 (some .int), .fieldLink RX0 11 "PeatHearths$Land" "row" "[I"] ++ wsX00)
def wsX0_turvesOn : List Cond := .code yX0_turvesOn cX0_turvesOn 7 (some .int) :: ([.methodLink RX0 30 yX0_at, .instanceMethod yX0_at, .selects RX0 yX0_at yX0_at, .initialized RX0, .code yX0_at cX0_at 2 (some .int), .fieldLink RX0 11 "PeatHearths$Land" "row" "[I"] ++ wsX00)
def wsX0_halfRoundedUp : List Cond := .code yX0_halfRoundedUp cX0_halfRoundedUp 1 (some .int) :: ([])
def wsX0_wetAgain : List Cond := .code yX0_wetAgain cX0_wetAgain 4 none :: ([.methodLink RX0 30 yX0_at, .instanceMethod yX0_at, .selects RX0 yX0_at yX0_at, .initialized RX0, .code yX0_at cX0_at 2 (some .int), .fieldLink RX0 11 "PeatHearths$Land" "row" "[I", .methodLink RX0 78 yX0_halfRoundedUp, .static yX0_halfRoundedUp, .code yX0_halfRoundedUp cX0_halfRoundedUp 1 (some .int), .methodLink RX0 23 yX0_add, .instanceMethod yX0_add, .selects RX0 yX0_add yX0_add, .code yX0_add cX0_add 3 none, .methodLink RX0 15 yX0_put, .instanceMethod yX0_put, .selects RX0 yX0_put yX0_put, .code yX0_put cX0_put 3 none] ++ wsX00)
def wsX0_dryOut : List Cond := .code yX0_dryOut cX0_dryOut 5 none :: ([.methodLink RX0 65 Lib.Math.min.name, .static Lib.Math.min.name, .initialized "java/lang/Math", .code Lib.Math.min.name Lib.Math.min.code 2 (some .int), .methodLink RX0 30 yX0_at, .instanceMethod yX0_at, .selects RX0 yX0_at yX0_at, .initialized RX0, .code yX0_at cX0_at 2 (some .int), .fieldLink RX0 11 "PeatHearths$Land" "row" "[I", .methodLink RX0 78 yX0_halfRoundedUp, .static yX0_halfRoundedUp, .code yX0_halfRoundedUp cX0_halfRoundedUp 1 (some .int), .methodLink RX0 23 yX0_add, .instanceMethod yX0_add, .selects RX0 yX0_add yX0_add, .code yX0_add cX0_add 3 none, .methodLink RX0 15 yX0_put, .instanceMethod yX0_put, .selects RX0 yX0_put yX0_put, .code yX0_put cX0_put 3 none] ++ wsX00)
def wsX0_weather_r1 : List Cond := [Cond.methodLink RX0 68 yX0_turvesOn, Cond.instanceMethod yX0_turvesOn, Cond.selects RX0 yX0_turvesOn yX0_turvesOn, Cond.initialized RX0, Cond.code yX0_turvesOn cX0_turvesOn 7 (some .int), Cond.methodLink RX0 30 yX0_at, Cond.instanceMethod yX0_at, Cond.selects RX0 yX0_at yX0_at, Cond.code yX0_at cX0_at 2 (some .int), Cond.fieldLink RX0 11 "PeatHearths$Land" "row" "[I", Cond.methodLink RX0 72 yX0_wetAgain, Cond.instanceMethod yX0_wetAgain, Cond.selects RX0 yX0_wetAgain yX0_wetAgain, Cond.code yX0_wetAgain cX0_wetAgain 4 none, Cond.methodLink RX0 78 yX0_halfRoundedUp, Cond.static yX0_halfRoundedUp, Cond.code yX0_halfRoundedUp cX0_halfRoundedUp 1 (some .int), Cond.methodLink RX0 23 yX0_add, Cond.instanceMethod yX0_add, Cond.selects RX0 yX0_add yX0_add, Cond.code yX0_add cX0_add 3 none, Cond.methodLink RX0 15 yX0_put, Cond.instanceMethod yX0_put, Cond.selects RX0 yX0_put yX0_put]
def wsX0_weather_r2 : List Cond := [Cond.code yX0_put cX0_put 3 none, Cond.methodLink RX0 75 yX0_dryOut, Cond.instanceMethod yX0_dryOut, Cond.selects RX0 yX0_dryOut yX0_dryOut, Cond.code yX0_dryOut cX0_dryOut 5 none, Cond.methodLink RX0 65 Lib.Math.min.name, Cond.static Lib.Math.min.name, Cond.initialized "java/lang/Math", Cond.code Lib.Math.min.name Lib.Math.min.code 2 (some .int)]
def wsX0_weather : List Cond := .code yX0_weather cX0_weather 3 none :: ((wsX0_weather_r1 ++ wsX0_weather_r2) ++ wsX00)
def wsX0_burn : List Cond := .code yX0_burn cX0_burn 4 none :: ([.methodLink RX0 65 Lib.Math.min.name, .static Lib.Math.min.name, .initialized "java/lang/Math", .code Lib.Math.min.name Lib.Math.min.code 2 (some .int), .methodLink RX0 30 yX0_at, .instanceMethod yX0_at, .selects RX0 yX0_at yX0_at, .initialized RX0, .code yX0_at cX0_at 2 (some .int), .fieldLink RX0 11 "PeatHearths$Land" "row" "[I", .methodLink RX0 23 yX0_add, .instanceMethod yX0_add, .selects RX0 yX0_add yX0_add, .code yX0_add cX0_add 3 none, .methodLink RX0 15 yX0_put, .instanceMethod yX0_put, .selects RX0 yX0_put yX0_put, .code yX0_put cX0_put 3 none] ++ wsX00)
def wsX0_cutTurves : List Cond := .code yX0_cutTurves cX0_cutTurves 5 none :: ([.methodLink RX0 65 Lib.Math.min.name, .static Lib.Math.min.name, .initialized "java/lang/Math", .code Lib.Math.min.name Lib.Math.min.code 2 (some .int), .methodLink RX0 30 yX0_at, .instanceMethod yX0_at, .selects RX0 yX0_at yX0_at, .initialized RX0, .code yX0_at cX0_at 2 (some .int), .fieldLink RX0 11 "PeatHearths$Land" "row" "[I", .methodLink RX0 23 yX0_add, .instanceMethod yX0_add, .selects RX0 yX0_add yX0_add, .code yX0_add cX0_add 3 none, .methodLink RX0 15 yX0_put, .instanceMethod yX0_put, .selects RX0 yX0_put yX0_put, .code yX0_put cX0_put 3 none, .methodLink RX0 19 yX0_plotOf, .static yX0_plotOf, .code yX0_plotOf cX0_plotOf 2 (some .int)] ++ wsX00)
def wsX0_poorestWidow : List Cond := .code yX0_poorestWidow cX0_poorestWidow 3 (some .int) :: ([.methodLink RX0 30 yX0_at, .instanceMethod yX0_at, .selects RX0 yX0_at yX0_at, .initialized RX0, .code yX0_at cX0_at 2 (some .int), .fieldLink RX0 11 "PeatHearths$Land" "row" "[I"] ++ wsX00)
def wsX0_cartHome_r1 : List Cond := [Cond.methodLink RX0 65 Lib.Math.min.name, Cond.static Lib.Math.min.name, Cond.initialized "java/lang/Math", Cond.code Lib.Math.min.name Lib.Math.min.code 2 (some .int), Cond.methodLink RX0 19 yX0_plotOf, Cond.static yX0_plotOf, Cond.initialized RX0, Cond.code yX0_plotOf cX0_plotOf 2 (some .int), Cond.methodLink RX0 30 yX0_at, Cond.instanceMethod yX0_at, Cond.selects RX0 yX0_at yX0_at, Cond.code yX0_at cX0_at 2 (some .int), Cond.fieldLink RX0 11 "PeatHearths$Land" "row" "[I", Cond.methodLink RX0 23 yX0_add, Cond.instanceMethod yX0_add, Cond.selects RX0 yX0_add yX0_add, Cond.code yX0_add cX0_add 3 none, Cond.methodLink RX0 15 yX0_put, Cond.instanceMethod yX0_put, Cond.selects RX0 yX0_put yX0_put, Cond.code yX0_put cX0_put 3 none, Cond.methodLink RX0 84 yX0_poorestWidow, Cond.instanceMethod yX0_poorestWidow, Cond.selects RX0 yX0_poorestWidow yX0_poorestWidow]
def wsX0_cartHome_r2 : List Cond := [Cond.code yX0_poorestWidow cX0_poorestWidow 3 (some .int)]
def wsX0_cartHome : List Cond := .code yX0_cartHome cX0_cartHome 7 (some .int) :: ((wsX0_cartHome_r1 ++ wsX0_cartHome_r2) ++ wsX00)
def wsX0_goCarts_r1 : List Cond := [Cond.methodLink RX0 30 yX0_at, Cond.instanceMethod yX0_at, Cond.selects RX0 yX0_at yX0_at, Cond.initialized RX0, Cond.code yX0_at cX0_at 2 (some .int), Cond.fieldLink RX0 11 "PeatHearths$Land" "row" "[I", Cond.methodLink RX0 44 yJ9_floorMod_7cf53, Cond.static yJ9_floorMod_7cf53, Cond.initialized RJ9, Cond.code yJ9_floorMod_7cf53 cJ9_floorMod_7cf53 3 (some .int), Cond.methodLink RX0 81 yX0_cartHome, Cond.instanceMethod yX0_cartHome, Cond.selects RX0 yX0_cartHome yX0_cartHome, Cond.code yX0_cartHome cX0_cartHome 7 (some .int), Cond.methodLink RX0 65 Lib.Math.min.name, Cond.static Lib.Math.min.name, Cond.initialized "java/lang/Math", Cond.code Lib.Math.min.name Lib.Math.min.code 2 (some .int), Cond.methodLink RX0 19 yX0_plotOf, Cond.static yX0_plotOf, Cond.code yX0_plotOf cX0_plotOf 2 (some .int), Cond.methodLink RX0 23 yX0_add, Cond.instanceMethod yX0_add, Cond.selects RX0 yX0_add yX0_add]
def wsX0_goCarts_r2 : List Cond := [Cond.code yX0_add cX0_add 3 none, Cond.methodLink RX0 15 yX0_put, Cond.instanceMethod yX0_put, Cond.selects RX0 yX0_put yX0_put, Cond.code yX0_put cX0_put 3 none, Cond.methodLink RX0 84 yX0_poorestWidow, Cond.instanceMethod yX0_poorestWidow, Cond.selects RX0 yX0_poorestWidow yX0_poorestWidow, Cond.code yX0_poorestWidow cX0_poorestWidow 3 (some .int)]
def wsX0_goCarts : List Cond := .code yX0_goCarts cX0_goCarts 7 (some .int) :: ((wsX0_goCarts_r1 ++ wsX0_goCarts_r2) ++ wsX00)
def wsX0_passDays_r1 : List Cond := [Cond.methodLink RX0 23 yX0_add, Cond.instanceMethod yX0_add, Cond.selects RX0 yX0_add yX0_add, Cond.initialized RX0, Cond.code yX0_add cX0_add 3 none, Cond.methodLink RX0 30 yX0_at, Cond.instanceMethod yX0_at, Cond.selects RX0 yX0_at yX0_at, Cond.code yX0_at cX0_at 2 (some .int), Cond.fieldLink RX0 11 "PeatHearths$Land" "row" "[I", Cond.methodLink RX0 15 yX0_put, Cond.instanceMethod yX0_put, Cond.selects RX0 yX0_put yX0_put, Cond.code yX0_put cX0_put 3 none, Cond.methodLink RX0 49 yX0_weather, Cond.instanceMethod yX0_weather, Cond.selects RX0 yX0_weather yX0_weather, Cond.code yX0_weather cX0_weather 3 none, Cond.methodLink RX0 68 yX0_turvesOn, Cond.instanceMethod yX0_turvesOn, Cond.selects RX0 yX0_turvesOn yX0_turvesOn, Cond.code yX0_turvesOn cX0_turvesOn 7 (some .int), Cond.methodLink RX0 72 yX0_wetAgain, Cond.instanceMethod yX0_wetAgain]
def wsX0_passDays_r2 : List Cond := [Cond.selects RX0 yX0_wetAgain yX0_wetAgain, Cond.code yX0_wetAgain cX0_wetAgain 4 none, Cond.methodLink RX0 78 yX0_halfRoundedUp, Cond.static yX0_halfRoundedUp, Cond.code yX0_halfRoundedUp cX0_halfRoundedUp 1 (some .int), Cond.methodLink RX0 75 yX0_dryOut, Cond.instanceMethod yX0_dryOut, Cond.selects RX0 yX0_dryOut yX0_dryOut, Cond.code yX0_dryOut cX0_dryOut 5 none, Cond.methodLink RX0 65 Lib.Math.min.name, Cond.static Lib.Math.min.name, Cond.initialized "java/lang/Math", Cond.code Lib.Math.min.name Lib.Math.min.code 2 (some .int), Cond.methodLink RX0 52 yX0_burn, Cond.instanceMethod yX0_burn, Cond.selects RX0 yX0_burn yX0_burn, Cond.code yX0_burn cX0_burn 4 none, Cond.methodLink RX0 55 yX0_cutTurves, Cond.instanceMethod yX0_cutTurves, Cond.selects RX0 yX0_cutTurves yX0_cutTurves, Cond.code yX0_cutTurves cX0_cutTurves 5 none, Cond.methodLink RX0 19 yX0_plotOf, Cond.static yX0_plotOf, Cond.code yX0_plotOf cX0_plotOf 2 (some .int)]
def wsX0_passDays_r3 : List Cond := [Cond.methodLink RX0 58 yX0_rainOf, Cond.instanceMethod yX0_rainOf, Cond.selects RX0 yX0_rainOf yX0_rainOf, Cond.code yX0_rainOf cX0_rainOf 2 (some .int), Cond.methodLink RX0 44 yJ9_floorMod_7cf53, Cond.static yJ9_floorMod_7cf53, Cond.initialized RJ9, Cond.code yJ9_floorMod_7cf53 cJ9_floorMod_7cf53 3 (some .int), Cond.methodLink RX0 61 yX0_goCarts, Cond.instanceMethod yX0_goCarts, Cond.selects RX0 yX0_goCarts yX0_goCarts, Cond.code yX0_goCarts cX0_goCarts 7 (some .int), Cond.methodLink RX0 81 yX0_cartHome, Cond.instanceMethod yX0_cartHome, Cond.selects RX0 yX0_cartHome yX0_cartHome, Cond.code yX0_cartHome cX0_cartHome 7 (some .int), Cond.methodLink RX0 84 yX0_poorestWidow, Cond.instanceMethod yX0_poorestWidow, Cond.selects RX0 yX0_poorestWidow yX0_poorestWidow, Cond.code yX0_poorestWidow cX0_poorestWidow 3 (some .int)]
def wsX0_passDays : List Cond := .code yX0_passDays cX0_passDays 4 (some .int) :: ((wsX0_passDays_r1 ++ (wsX0_passDays_r2 ++ wsX0_passDays_r3)) ++ wsX00)
def wsX0_turvesOnBanks : List Cond := .code yX0_turvesOnBanks cX0_turvesOnBanks 1 (some .int) :: ([.methodLink RX0 68 yX0_turvesOn, .instanceMethod yX0_turvesOn, .selects RX0 yX0_turvesOn yX0_turvesOn, .initialized RX0, .code yX0_turvesOn cX0_turvesOn 7 (some .int), .methodLink RX0 30 yX0_at, .instanceMethod yX0_at, .selects RX0 yX0_at yX0_at, .code yX0_at cX0_at 2 (some .int), .fieldLink RX0 11 "PeatHearths$Land" "row" "[I"] ++ wsX00)
def wsX0_shortBy : List Cond := .code yX0_shortBy cX0_shortBy 2 (some .int) :: ([.methodLink RX0 87 Lib.Math.max.name, .static Lib.Math.max.name, .initialized "java/lang/Math", .code Lib.Math.max.name Lib.Math.max.code 2 (some .int), .methodLink RX0 30 yX0_at, .instanceMethod yX0_at, .selects RX0 yX0_at yX0_at, .initialized RX0, .code yX0_at cX0_at 2 (some .int), .fieldLink RX0 11 "PeatHearths$Land" "row" "[I"] ++ wsX00)
def wsX0_willBeShortBy : List Cond := .code yX0_willBeShortBy cX0_willBeShortBy 2 (some .int) :: ([.methodLink RX0 87 Lib.Math.max.name, .static Lib.Math.max.name, .initialized "java/lang/Math", .code Lib.Math.max.name Lib.Math.max.code 2 (some .int), .methodLink RX0 30 yX0_at, .instanceMethod yX0_at, .selects RX0 yX0_at yX0_at, .initialized RX0, .code yX0_at cX0_at 2 (some .int), .fieldLink RX0 11 "PeatHearths$Land" "row" "[I", .methodLink RX0 19 yX0_plotOf, .static yX0_plotOf, .code yX0_plotOf cX0_plotOf 2 (some .int), .methodLink RX0 68 yX0_turvesOn, .instanceMethod yX0_turvesOn, .selects RX0 yX0_turvesOn yX0_turvesOn, .code yX0_turvesOn cX0_turvesOn 7 (some .int)] ++ wsX00)
def wsX0_willBeShortByTheBook : List Cond := .code yX0_willBeShortByTheBook cX0_willBeShortByTheBook 4 (some .int) :: ([.methodLink RX0 87 Lib.Math.max.name, .static Lib.Math.max.name, .initialized "java/lang/Math", .code Lib.Math.max.name Lib.Math.max.code 2 (some .int), .methodLink RX0 30 yX0_at, .instanceMethod yX0_at, .selects RX0 yX0_at yX0_at, .initialized RX0, .code yX0_at cX0_at 2 (some .int), .fieldLink RX0 11 "PeatHearths$Land" "row" "[I"] ++ wsX00)
def wsX0_hearthsShort : List Cond := .code yX0_hearthsShort cX0_hearthsShort 3 (some .int) :: ([.methodLink RX0 90 yX0_shortBy, .instanceMethod yX0_shortBy, .selects RX0 yX0_shortBy yX0_shortBy, .initialized RX0, .code yX0_shortBy cX0_shortBy 2 (some .int), .methodLink RX0 87 Lib.Math.max.name, .static Lib.Math.max.name, .initialized "java/lang/Math", .code Lib.Math.max.name Lib.Math.max.code 2 (some .int), .methodLink RX0 30 yX0_at, .instanceMethod yX0_at, .selects RX0 yX0_at yX0_at, .code yX0_at cX0_at 2 (some .int), .fieldLink RX0 11 "PeatHearths$Land" "row" "[I"] ++ wsX00)
def wsX0_hearthsThatWillBeShort : List Cond := .code yX0_hearthsThatWillBeShort cX0_hearthsThatWillBeShort 3 (some .int) :: ([.methodLink RX0 93 yX0_willBeShortBy, .instanceMethod yX0_willBeShortBy, .selects RX0 yX0_willBeShortBy yX0_willBeShortBy, .initialized RX0, .code yX0_willBeShortBy cX0_willBeShortBy 2 (some .int), .methodLink RX0 87 Lib.Math.max.name, .static Lib.Math.max.name, .initialized "java/lang/Math", .code Lib.Math.max.name Lib.Math.max.code 2 (some .int), .methodLink RX0 30 yX0_at, .instanceMethod yX0_at, .selects RX0 yX0_at yX0_at, .code yX0_at cX0_at 2 (some .int), .fieldLink RX0 11 "PeatHearths$Land" "row" "[I", .methodLink RX0 19 yX0_plotOf, .static yX0_plotOf, .code yX0_plotOf cX0_plotOf 2 (some .int), .methodLink RX0 68 yX0_turvesOn, .instanceMethod yX0_turvesOn, .selects RX0 yX0_turvesOn yX0_turvesOn, .code yX0_turvesOn cX0_turvesOn 7 (some .int)] ++ wsX00)
def wsX0_ofHearth_r1 : List Cond := [Cond.methodLink RX0 30 yX0_at, Cond.instanceMethod yX0_at, Cond.selects RX0 yX0_at yX0_at, Cond.initialized RX0, Cond.code yX0_at cX0_at 2 (some .int), Cond.fieldLink RX0 11 "PeatHearths$Land" "row" "[I", Cond.methodLink RX0 19 yX0_plotOf, Cond.static yX0_plotOf, Cond.code yX0_plotOf cX0_plotOf 2 (some .int), Cond.methodLink RX0 68 yX0_turvesOn, Cond.instanceMethod yX0_turvesOn, Cond.selects RX0 yX0_turvesOn yX0_turvesOn, Cond.code yX0_turvesOn cX0_turvesOn 7 (some .int), Cond.methodLink RX0 90 yX0_shortBy, Cond.instanceMethod yX0_shortBy, Cond.selects RX0 yX0_shortBy yX0_shortBy, Cond.code yX0_shortBy cX0_shortBy 2 (some .int), Cond.methodLink RX0 87 Lib.Math.max.name, Cond.static Lib.Math.max.name, Cond.initialized "java/lang/Math", Cond.code Lib.Math.max.name Lib.Math.max.code 2 (some .int), Cond.methodLink RX0 93 yX0_willBeShortBy, Cond.instanceMethod yX0_willBeShortBy, Cond.selects RX0 yX0_willBeShortBy yX0_willBeShortBy]
def wsX0_ofHearth_r2 : List Cond := [Cond.code yX0_willBeShortBy cX0_willBeShortBy 2 (some .int), Cond.methodLink RX0 96 yX0_willBeShortByTheBook, Cond.instanceMethod yX0_willBeShortByTheBook, Cond.selects RX0 yX0_willBeShortByTheBook yX0_willBeShortByTheBook, Cond.code yX0_willBeShortByTheBook cX0_willBeShortByTheBook 4 (some .int)]
def wsX0_ofHearth : List Cond := .code yX0_ofHearth cX0_ofHearth 3 (some .int) :: ((wsX0_ofHearth_r1 ++ wsX0_ofHearth_r2) ++ wsX00)
def wsX0_ofBank : List Cond := .code yX0_ofBank cX0_ofBank 3 (some .int) :: ([.methodLink RX0 30 yX0_at, .instanceMethod yX0_at, .selects RX0 yX0_at yX0_at, .initialized RX0, .code yX0_at cX0_at 2 (some .int), .fieldLink RX0 11 "PeatHearths$Land" "row" "[I", .methodLink RX0 37 yX0_cuttersOnBank, .instanceMethod yX0_cuttersOnBank, .selects RX0 yX0_cuttersOnBank yX0_cuttersOnBank, .code yX0_cuttersOnBank cX0_cuttersOnBank 4 (some .int), .methodLink RX0 34 yX0_cuttersAt, .instanceMethod yX0_cuttersAt, .selects RX0 yX0_cuttersAt yX0_cuttersAt, .code yX0_cuttersAt cX0_cuttersAt 5 (some .int), .methodLink RX0 19 yX0_plotOf, .static yX0_plotOf, .code yX0_plotOf cX0_plotOf 2 (some .int), .methodLink RX0 68 yX0_turvesOn, .instanceMethod yX0_turvesOn, .selects RX0 yX0_turvesOn yX0_turvesOn, .code yX0_turvesOn cX0_turvesOn 7 (some .int)] ++ wsX00)
def wsX0_ofPlot : List Cond := .code yX0_ofPlot cX0_ofPlot 5 (some .int) :: ([.methodLink RX0 19 yX0_plotOf, .static yX0_plotOf, .initialized RX0, .code yX0_plotOf cX0_plotOf 2 (some .int), .methodLink RX0 30 yX0_at, .instanceMethod yX0_at, .selects RX0 yX0_at yX0_at, .code yX0_at cX0_at 2 (some .int), .fieldLink RX0 11 "PeatHearths$Land" "row" "[I", .methodLink RX0 34 yX0_cuttersAt, .instanceMethod yX0_cuttersAt, .selects RX0 yX0_cuttersAt yX0_cuttersAt, .code yX0_cuttersAt cX0_cuttersAt 5 (some .int)] ++ wsX00)
def wsX0_ofCutter : List Cond := .code yX0_ofCutter cX0_ofCutter 3 (some .int) :: ([.methodLink RX0 30 yX0_at, .instanceMethod yX0_at, .selects RX0 yX0_at yX0_at, .initialized RX0, .code yX0_at cX0_at 2 (some .int), .fieldLink RX0 11 "PeatHearths$Land" "row" "[I"] ++ wsX00)
def wsX0_ofAll_r1 : List Cond := [Cond.methodLink RX0 30 yX0_at, Cond.instanceMethod yX0_at, Cond.selects RX0 yX0_at yX0_at, Cond.initialized RX0, Cond.code yX0_at cX0_at 2 (some .int), Cond.fieldLink RX0 11 "PeatHearths$Land" "row" "[I", Cond.methodLink RX0 99 yX0_cuttersAtWork, Cond.instanceMethod yX0_cuttersAtWork, Cond.selects RX0 yX0_cuttersAtWork yX0_cuttersAtWork, Cond.code yX0_cuttersAtWork cX0_cuttersAtWork 3 (some .int), Cond.methodLink RX0 37 yX0_cuttersOnBank, Cond.instanceMethod yX0_cuttersOnBank, Cond.selects RX0 yX0_cuttersOnBank yX0_cuttersOnBank, Cond.code yX0_cuttersOnBank cX0_cuttersOnBank 4 (some .int), Cond.methodLink RX0 34 yX0_cuttersAt, Cond.instanceMethod yX0_cuttersAt, Cond.selects RX0 yX0_cuttersAt yX0_cuttersAt, Cond.code yX0_cuttersAt cX0_cuttersAt 5 (some .int), Cond.methodLink RX0 102 yX0_sum, Cond.instanceMethod yX0_sum, Cond.selects RX0 yX0_sum yX0_sum, Cond.code yX0_sum cX0_sum 5 (some .int), Cond.methodLink RX0 105 yX0_turvesOnBanks, Cond.instanceMethod yX0_turvesOnBanks]
def wsX0_ofAll_r2 : List Cond := [Cond.selects RX0 yX0_turvesOnBanks yX0_turvesOnBanks, Cond.code yX0_turvesOnBanks cX0_turvesOnBanks 1 (some .int), Cond.methodLink RX0 68 yX0_turvesOn, Cond.instanceMethod yX0_turvesOn, Cond.selects RX0 yX0_turvesOn yX0_turvesOn, Cond.code yX0_turvesOn cX0_turvesOn 7 (some .int), Cond.methodLink RX0 108 yX0_hearthsShort, Cond.instanceMethod yX0_hearthsShort, Cond.selects RX0 yX0_hearthsShort yX0_hearthsShort, Cond.code yX0_hearthsShort cX0_hearthsShort 3 (some .int), Cond.methodLink RX0 90 yX0_shortBy, Cond.instanceMethod yX0_shortBy, Cond.selects RX0 yX0_shortBy yX0_shortBy, Cond.code yX0_shortBy cX0_shortBy 2 (some .int), Cond.methodLink RX0 87 Lib.Math.max.name, Cond.static Lib.Math.max.name, Cond.initialized "java/lang/Math", Cond.code Lib.Math.max.name Lib.Math.max.code 2 (some .int), Cond.methodLink RX0 111 yX0_hearthsThatWillBeShort, Cond.instanceMethod yX0_hearthsThatWillBeShort, Cond.selects RX0 yX0_hearthsThatWillBeShort yX0_hearthsThatWillBeShort, Cond.code yX0_hearthsThatWillBeShort cX0_hearthsThatWillBeShort 3 (some .int), Cond.methodLink RX0 93 yX0_willBeShortBy, Cond.instanceMethod yX0_willBeShortBy]
def wsX0_ofAll_r3 : List Cond := [Cond.selects RX0 yX0_willBeShortBy yX0_willBeShortBy, Cond.code yX0_willBeShortBy cX0_willBeShortBy 2 (some .int), Cond.methodLink RX0 19 yX0_plotOf, Cond.static yX0_plotOf, Cond.code yX0_plotOf cX0_plotOf 2 (some .int)]
def wsX0_ofAll : List Cond := .code yX0_ofAll cX0_ofAll 2 (some .int) :: ((wsX0_ofAll_r1 ++ (wsX0_ofAll_r2 ++ wsX0_ofAll_r3)) ++ wsX00)
def wsX1_init : List Cond := .code yX1_init cX1_init 2 none :: ([.methodLink RX1 3 objectInit, .instanceMethod objectInit, .code objectInit ⟨#[0xb1]⟩ 1 none, .methodLink RX1 9 Lib.Math.min.name, .static Lib.Math.min.name, .initialized "java/lang/Math", .code Lib.Math.min.name Lib.Math.min.code 2 (some .int), .methodLink RX1 15 Lib.Math.max.name, .static Lib.Math.max.name, .code Lib.Math.max.name Lib.Math.max.code 2 (some .int), .fieldLink RX1 18 "PeatHearths$Shelf" "most" "I", .arrayClass .int, .fieldLink RX1 26 "PeatHearths$Shelf" "rows" "[I"] ++ wsX10)
def wsX1_size : List Cond := .code yX1_size cX1_size 1 (some .int) :: ([.fieldLink RX1 30 "PeatHearths$Shelf" "many" "I"] ++ wsX10)
def wsX1_isInside : List Cond := .code yX1_isInside cX1_isInside 2 (some .boolean) :: ([.fieldLink RX1 26 "PeatHearths$Shelf" "rows" "[I"] ++ wsX10)
def wsX1_push : List Cond := .code yX1_push cX1_push 4 none :: ([.fieldLink RX1 33 "PeatHearths$Shelf" "top" "I", .fieldLink RX1 18 "PeatHearths$Shelf" "most" "I", .fieldLink RX1 30 "PeatHearths$Shelf" "many" "I", .methodLink RX1 9 Lib.Math.min.name, .static Lib.Math.min.name, .initialized "java/lang/Math", .code Lib.Math.min.name Lib.Math.min.code 2 (some .int), .fieldLink RX1 26 "PeatHearths$Shelf" "rows" "[I", .methodLink RX1 36 yX1_isInside, .instanceMethod yX1_isInside, .selects RX1 yX1_isInside yX1_isInside, .initialized RX1, .code yX1_isInside cX1_isInside 2 (some .boolean), .methodLink RX1 40 yX0_at, .instanceMethod yX0_at, .selects RX0 yX0_at yX0_at, .initialized RX0, .code yX0_at cX0_at 2 (some .int), .fieldLink RX0 11 "PeatHearths$Land" "row" "[I"] ++ wsX10 ++ wsX00)
def wsX1_showTop : List Cond := .code yX1_showTop cX1_showTop 4 none :: ([.fieldLink RX1 33 "PeatHearths$Shelf" "top" "I", .fieldLink RX1 26 "PeatHearths$Shelf" "rows" "[I", .methodLink RX1 36 yX1_isInside, .instanceMethod yX1_isInside, .selects RX1 yX1_isInside yX1_isInside, .initialized RX1, .code yX1_isInside cX1_isInside 2 (some .boolean), .methodLink RX1 44 yX0_put, .instanceMethod yX0_put, .selects RX0 yX0_put yX0_put, .initialized RX0, .code yX0_put cX0_put 3 none, .fieldLink RX0 11 "PeatHearths$Land" "row" "[I"] ++ wsX10 ++ wsX00)
def wsX1_dropTop : List Cond := .code yX1_dropTop cX1_dropTop 1 none :: ([.fieldLink RX1 33 "PeatHearths$Shelf" "top" "I", .fieldLink RX1 18 "PeatHearths$Shelf" "most" "I", .fieldLink RX1 30 "PeatHearths$Shelf" "many" "I", .methodLink RX1 15 Lib.Math.max.name, .static Lib.Math.max.name, .initialized "java/lang/Math", .code Lib.Math.max.name Lib.Math.max.code 2 (some .int)] ++ wsX10)
def wsX2_init : List Cond := .code yX2_init cX2_init 1 none :: ([.methodLink RX2 3 objectInit, .instanceMethod objectInit, .code objectInit ⟨#[0xb1]⟩ 1 none, .arrayClass .char, .fieldLink RX2 9 "PeatHearths$Text" "signs" "[C"] ++ wsX20)
def wsX2_length : List Cond := .code yX2_length cX2_length 1 (some .int) :: ([.fieldLink RX2 15 "PeatHearths$Text" "length" "I"] ++ wsX20)
def wsX2_push : List Cond := .code yX2_push cX2_push 2 none :: ([.fieldLink RX2 15 "PeatHearths$Text" "length" "I", .fieldLink RX2 9 "PeatHearths$Text" "signs" "[C"] ++ wsX20)
def wsX2_wipe : List Cond := .code yX2_wipe cX2_wipe 1 none :: ([.fieldLink RX2 15 "PeatHearths$Text" "length" "I"] ++ wsX20)
def wsX2_signAt : List Cond := .code yX2_signAt cX2_signAt 2 (some .char) :: ([.fieldLink RX2 15 "PeatHearths$Text" "length" "I", .fieldLink RX2 9 "PeatHearths$Text" "signs" "[C"] ++ wsX20)
def wsX2_endsPart : List Cond := .code yX2_endsPart cX2_endsPart 1 (some .boolean) :: ([])
def wsX2_beginPart : List Cond := .code yX2_beginPart cX2_beginPart 1 (some .int) :: ([])
def wsX2_isDigit : List Cond := .code yX2_isDigit cX2_isDigit 2 (some .boolean) :: ([])
def wsX2_beginDays : List Cond := .code yX2_beginDays cX2_beginDays 1 (some .int) :: ([.methodLink RX2 31 yX2_isDigit, .static yX2_isDigit, .initialized RX2, .code yX2_isDigit cX2_isDigit 2 (some .boolean)])
def wsX2_readNext : List Cond := .code yX2_readNext cX2_readNext 2 (some .int) :: ([.methodLink RX2 27 yX2_endsPart, .static yX2_endsPart, .initialized RX2, .code yX2_endsPart cX2_endsPart 1 (some .boolean), .methodLink RX2 35 yX2_beginPart, .static yX2_beginPart, .code yX2_beginPart cX2_beginPart 1 (some .int), .methodLink RX2 31 yX2_isDigit, .static yX2_isDigit, .code yX2_isDigit cX2_isDigit 2 (some .boolean), .methodLink RX2 39 yX2_beginDays, .static yX2_beginDays, .code yX2_beginDays cX2_beginDays 1 (some .int)])
def wsX2_rightSigns : List Cond := .code yX2_rightSigns cX2_rightSigns 3 (some .int) :: ([.fieldLink RX2 15 "PeatHearths$Text" "length" "I", .methodLink RX2 19 yX2_signAt, .instanceMethod yX2_signAt, .selects RX2 yX2_signAt yX2_signAt, .initialized RX2, .code yX2_signAt cX2_signAt 2 (some .char), .fieldLink RX2 9 "PeatHearths$Text" "signs" "[C", .methodLink RX2 23 yX2_readNext, .static yX2_readNext, .code yX2_readNext cX2_readNext 2 (some .int), .methodLink RX2 27 yX2_endsPart, .static yX2_endsPart, .code yX2_endsPart cX2_endsPart 1 (some .boolean), .methodLink RX2 35 yX2_beginPart, .static yX2_beginPart, .code yX2_beginPart cX2_beginPart 1 (some .int), .methodLink RX2 31 yX2_isDigit, .static yX2_isDigit, .code yX2_isDigit cX2_isDigit 2 (some .boolean), .methodLink RX2 39 yX2_beginDays, .static yX2_beginDays, .code yX2_beginDays cX2_beginDays 1 (some .int)] ++ wsX20)
def wsX2_isComplete : List Cond := .code yX2_isComplete cX2_isComplete 3 (some .boolean) :: ([.fieldLink RX2 15 "PeatHearths$Text" "length" "I", .methodLink RX2 19 yX2_signAt, .instanceMethod yX2_signAt, .selects RX2 yX2_signAt yX2_signAt, .initialized RX2, .code yX2_signAt cX2_signAt 2 (some .char), .fieldLink RX2 9 "PeatHearths$Text" "signs" "[C", .methodLink RX2 23 yX2_readNext, .static yX2_readNext, .code yX2_readNext cX2_readNext 2 (some .int), .methodLink RX2 27 yX2_endsPart, .static yX2_endsPart, .code yX2_endsPart cX2_endsPart 1 (some .boolean), .methodLink RX2 35 yX2_beginPart, .static yX2_beginPart, .code yX2_beginPart cX2_beginPart 1 (some .int), .methodLink RX2 31 yX2_isDigit, .static yX2_isDigit, .code yX2_isDigit cX2_isDigit 2 (some .boolean), .methodLink RX2 39 yX2_beginDays, .static yX2_beginDays, .code yX2_beginDays cX2_beginDays 1 (some .int)] ++ wsX20)
def wsX2_isPartBegin : List Cond := .code yX2_isPartBegin cX2_isPartBegin 2 (some .boolean) :: ([.methodLink RX2 19 yX2_signAt, .instanceMethod yX2_signAt, .selects RX2 yX2_signAt yX2_signAt, .initialized RX2, .code yX2_signAt cX2_signAt 2 (some .char), .fieldLink RX2 15 "PeatHearths$Text" "length" "I", .fieldLink RX2 9 "PeatHearths$Text" "signs" "[C"] ++ wsX20)
def wsX2_numberAt : List Cond := .code yX2_numberAt cX2_numberAt 3 (some .int) :: ([.methodLink RX2 19 yX2_signAt, .instanceMethod yX2_signAt, .selects RX2 yX2_signAt yX2_signAt, .initialized RX2, .code yX2_signAt cX2_signAt 2 (some .char), .fieldLink RX2 15 "PeatHearths$Text" "length" "I", .fieldLink RX2 9 "PeatHearths$Text" "signs" "[C", .methodLink RX2 31 yX2_isDigit, .static yX2_isDigit, .code yX2_isDigit cX2_isDigit 2 (some .boolean)] ++ wsX20)
def wsX3_init_r1 : List Cond := [Cond.methodLink RX3 3 objectInit, Cond.instanceMethod objectInit, Cond.code objectInit ⟨#[0xb1]⟩ 1 none, Cond.classLink RX3 9 RX0, Cond.instantiable RX0 1, Cond.initialized RX0, Cond.fieldLink RX3 12 "PeatHearths" "land" "LPeatHearths$Land;", Cond.fieldLink RX3 16 "PeatHearths" "trial" "LPeatHearths$Land;", Cond.classLink RX3 19 RX1, Cond.instantiable RX1 4, Cond.initialized RX1, Cond.fieldLink RX3 24 "PeatHearths" "saved" "LPeatHearths$Shelf;", Cond.fieldLink RX3 28 "PeatHearths" "snapshot" "LPeatHearths$Shelf;", Cond.classLink RX3 31 RX2, Cond.instantiable RX2 2, Cond.initialized RX2, Cond.fieldLink RX3 34 "PeatHearths" "text" "LPeatHearths$Text;", Cond.methodLink RX3 11 yX0_init, Cond.instanceMethod yX0_init, Cond.code yX0_init cX0_init 3 none, Cond.methodLink RX0 5 objectInit, Cond.arrayClass .int, Cond.fieldLink RX0 11 "PeatHearths$Land" "row" "[I", Cond.methodLink RX0 15 yX0_put]
def wsX3_init_r2 : List Cond := [Cond.instanceMethod yX0_put, Cond.selects RX0 yX0_put yX0_put, Cond.code yX0_put cX0_put 3 none, Cond.methodLink RX0 19 yX0_plotOf, Cond.static yX0_plotOf, Cond.code yX0_plotOf cX0_plotOf 2 (some .int), Cond.methodLink RX0 23 yX0_add, Cond.instanceMethod yX0_add, Cond.selects RX0 yX0_add yX0_add, Cond.code yX0_add cX0_add 3 none, Cond.methodLink RX0 30 yX0_at, Cond.instanceMethod yX0_at, Cond.selects RX0 yX0_at yX0_at, Cond.code yX0_at cX0_at 2 (some .int), Cond.methodLink RX0 26 yX0_letRest, Cond.instanceMethod yX0_letRest, Cond.selects RX0 yX0_letRest yX0_letRest, Cond.code yX0_letRest cX0_letRest 2 none, Cond.methodLink RX0 40 yX0_setToWork, Cond.instanceMethod yX0_setToWork, Cond.selects RX0 yX0_setToWork yX0_setToWork, Cond.code yX0_setToWork cX0_setToWork 4 none, Cond.methodLink RX3 21 yX1_init, Cond.instanceMethod yX1_init]
def wsX3_init_r3 : List Cond := [Cond.code yX1_init cX1_init 2 none, Cond.methodLink RX1 3 objectInit, Cond.methodLink RX1 9 Lib.Math.min.name, Cond.static Lib.Math.min.name, Cond.initialized "java/lang/Math", Cond.code Lib.Math.min.name Lib.Math.min.code 2 (some .int), Cond.methodLink RX1 15 Lib.Math.max.name, Cond.static Lib.Math.max.name, Cond.code Lib.Math.max.name Lib.Math.max.code 2 (some .int), Cond.fieldLink RX1 18 "PeatHearths$Shelf" "most" "I", Cond.fieldLink RX1 26 "PeatHearths$Shelf" "rows" "[I", Cond.instanceMethod yX2_init, Cond.code yX2_init cX2_init 1 none, Cond.methodLink RX2 3 objectInit, Cond.arrayClass .char, Cond.fieldLink RX2 9 "PeatHearths$Text" "signs" "[C"]
def wsX3_init : List Cond := .code yX3_init cX3_init 1 none :: ((wsX3_init_r1 ++ (wsX3_init_r2 ++ wsX3_init_r3)) ++ wsX00 ++ wsX30 ++ wsX10 ++ wsX20)
def wsX3_requireIndex : List Cond := .code yX3_requireIndex cX3_requireIndex 2 none :: ([.classLink RX3 224 "java/lang/IndexOutOfBoundsException", .initialized "java/lang/IndexOutOfBoundsException"] ++ (vx_atS RX3 228 "java/lang/IndexOutOfBoundsException" ["java/lang/RuntimeException", "java/lang/Exception"]).filter goodWord)
def wsX3_requireArgument : List Cond := .code yX3_requireArgument cX3_requireArgument 1 none :: ([.classLink RX3 231 "java/lang/IllegalArgumentException", .initialized "java/lang/IllegalArgumentException"] ++ (vx_atS RX3 235 "java/lang/IllegalArgumentException" ["java/lang/RuntimeException", "java/lang/Exception"]).filter goodWord)
def wsX3_requireRange : List Cond := .code yX3_requireRange cX3_requireRange 3 none :: ([.methodLink RX3 80 yX3_requireArgument, .static yX3_requireArgument, .initialized RX3, .code yX3_requireArgument cX3_requireArgument 1 none, .classLink RX3 231 "java/lang/IllegalArgumentException", .initialized "java/lang/IllegalArgumentException"] ++ (vx_atS RX3 235 "java/lang/IllegalArgumentException" ["java/lang/RuntimeException", "java/lang/Exception"]).filter goodWord)
def wsX3_hearth_r1 : List Cond := [Cond.fieldLink RX3 24 "PeatHearths" "saved" "LPeatHearths$Shelf;", Cond.fieldLink RX3 12 "PeatHearths" "land" "LPeatHearths$Land;", Cond.methodLink RX3 38 yX3_requireIndex, Cond.static yX3_requireIndex, Cond.initialized RX3, Cond.code yX3_requireIndex cX3_requireIndex 2 none, Cond.classLink RX3 224 "java/lang/IndexOutOfBoundsException", Cond.initialized "java/lang/IndexOutOfBoundsException", Cond.methodLink RX3 42 yX3_requireRange, Cond.static yX3_requireRange, Cond.code yX3_requireRange cX3_requireRange 3 none, Cond.methodLink RX3 80 yX3_requireArgument, Cond.static yX3_requireArgument, Cond.code yX3_requireArgument cX3_requireArgument 1 none, Cond.classLink RX3 231 "java/lang/IllegalArgumentException", Cond.initialized "java/lang/IllegalArgumentException", Cond.methodLink RX3 46 yX1_push, Cond.instanceMethod yX1_push, Cond.selects RX1 yX1_push yX1_push, Cond.initialized RX1, Cond.code yX1_push cX1_push 4 none, Cond.fieldLink RX1 33 "PeatHearths$Shelf" "top" "I", Cond.fieldLink RX1 18 "PeatHearths$Shelf" "most" "I", Cond.fieldLink RX1 30 "PeatHearths$Shelf" "many" "I"]
def wsX3_hearth_r2 : List Cond := [Cond.methodLink RX1 9 Lib.Math.min.name, Cond.static Lib.Math.min.name, Cond.initialized "java/lang/Math", Cond.code Lib.Math.min.name Lib.Math.min.code 2 (some .int), Cond.fieldLink RX1 26 "PeatHearths$Shelf" "rows" "[I", Cond.methodLink RX1 36 yX1_isInside, Cond.instanceMethod yX1_isInside, Cond.selects RX1 yX1_isInside yX1_isInside, Cond.code yX1_isInside cX1_isInside 2 (some .boolean), Cond.methodLink RX1 40 yX0_at, Cond.instanceMethod yX0_at, Cond.selects RX0 yX0_at yX0_at, Cond.initialized RX0, Cond.code yX0_at cX0_at 2 (some .int), Cond.fieldLink RX0 11 "PeatHearths$Land" "row" "[I", Cond.methodLink RX3 50 yX0_put, Cond.instanceMethod yX0_put, Cond.selects RX0 yX0_put yX0_put, Cond.code yX0_put cX0_put 3 none, Cond.methodLink RX3 53 yX0_swap, Cond.instanceMethod yX0_swap, Cond.selects RX0 yX0_swap yX0_swap, Cond.code yX0_swap cX0_swap 4 (some .int), Cond.methodLink RX0 30 yX0_at]
def wsX3_hearth_r3 : List Cond := [Cond.methodLink RX0 15 yX0_put]
def wsX3_hearth : List Cond := .code yX3_hearth cX3_hearth 4 (some .int) :: ((wsX3_hearth_r1 ++ (wsX3_hearth_r2 ++ wsX3_hearth_r3)) ++ wsX30 ++ wsX10 ++ wsX00 ++ (vx_atS RX3 228 "java/lang/IndexOutOfBoundsException" ["java/lang/RuntimeException", "java/lang/Exception"]).filter goodWord ++ (vx_atS RX3 235 "java/lang/IllegalArgumentException" ["java/lang/RuntimeException", "java/lang/Exception"]).filter goodWord)
def wsX3_track_r1 : List Cond := [Cond.fieldLink RX3 24 "PeatHearths" "saved" "LPeatHearths$Shelf;", Cond.fieldLink RX3 12 "PeatHearths" "land" "LPeatHearths$Land;", Cond.methodLink RX3 38 yX3_requireIndex, Cond.static yX3_requireIndex, Cond.initialized RX3, Cond.code yX3_requireIndex cX3_requireIndex 2 none, Cond.classLink RX3 224 "java/lang/IndexOutOfBoundsException", Cond.initialized "java/lang/IndexOutOfBoundsException", Cond.methodLink RX3 42 yX3_requireRange, Cond.static yX3_requireRange, Cond.code yX3_requireRange cX3_requireRange 3 none, Cond.methodLink RX3 80 yX3_requireArgument, Cond.static yX3_requireArgument, Cond.code yX3_requireArgument cX3_requireArgument 1 none, Cond.classLink RX3 231 "java/lang/IllegalArgumentException", Cond.initialized "java/lang/IllegalArgumentException", Cond.methodLink RX3 46 yX1_push, Cond.instanceMethod yX1_push, Cond.selects RX1 yX1_push yX1_push, Cond.initialized RX1, Cond.code yX1_push cX1_push 4 none, Cond.fieldLink RX1 33 "PeatHearths$Shelf" "top" "I", Cond.fieldLink RX1 18 "PeatHearths$Shelf" "most" "I", Cond.fieldLink RX1 30 "PeatHearths$Shelf" "many" "I"]
def wsX3_track_r2 : List Cond := [Cond.methodLink RX1 9 Lib.Math.min.name, Cond.static Lib.Math.min.name, Cond.initialized "java/lang/Math", Cond.code Lib.Math.min.name Lib.Math.min.code 2 (some .int), Cond.fieldLink RX1 26 "PeatHearths$Shelf" "rows" "[I", Cond.methodLink RX1 36 yX1_isInside, Cond.instanceMethod yX1_isInside, Cond.selects RX1 yX1_isInside yX1_isInside, Cond.code yX1_isInside cX1_isInside 2 (some .boolean), Cond.methodLink RX1 40 yX0_at, Cond.instanceMethod yX0_at, Cond.selects RX0 yX0_at yX0_at, Cond.initialized RX0, Cond.code yX0_at cX0_at 2 (some .int), Cond.fieldLink RX0 11 "PeatHearths$Land" "row" "[I", Cond.methodLink RX3 53 yX0_swap, Cond.instanceMethod yX0_swap, Cond.selects RX0 yX0_swap yX0_swap, Cond.code yX0_swap cX0_swap 4 (some .int), Cond.methodLink RX0 30 yX0_at, Cond.methodLink RX0 15 yX0_put, Cond.instanceMethod yX0_put, Cond.selects RX0 yX0_put yX0_put, Cond.code yX0_put cX0_put 3 none]
def wsX3_track : List Cond := .code yX3_track cX3_track 3 (some .int) :: ((wsX3_track_r1 ++ wsX3_track_r2) ++ wsX30 ++ wsX10 ++ wsX00 ++ (vx_atS RX3 228 "java/lang/IndexOutOfBoundsException" ["java/lang/RuntimeException", "java/lang/Exception"]).filter goodWord ++ (vx_atS RX3 235 "java/lang/IllegalArgumentException" ["java/lang/RuntimeException", "java/lang/Exception"]).filter goodWord)
def wsX3_strength_r1 : List Cond := [Cond.fieldLink RX3 24 "PeatHearths" "saved" "LPeatHearths$Shelf;", Cond.fieldLink RX3 12 "PeatHearths" "land" "LPeatHearths$Land;", Cond.methodLink RX3 38 yX3_requireIndex, Cond.static yX3_requireIndex, Cond.initialized RX3, Cond.code yX3_requireIndex cX3_requireIndex 2 none, Cond.classLink RX3 224 "java/lang/IndexOutOfBoundsException", Cond.initialized "java/lang/IndexOutOfBoundsException", Cond.methodLink RX3 42 yX3_requireRange, Cond.static yX3_requireRange, Cond.code yX3_requireRange cX3_requireRange 3 none, Cond.methodLink RX3 80 yX3_requireArgument, Cond.static yX3_requireArgument, Cond.code yX3_requireArgument cX3_requireArgument 1 none, Cond.classLink RX3 231 "java/lang/IllegalArgumentException", Cond.initialized "java/lang/IllegalArgumentException", Cond.methodLink RX3 46 yX1_push, Cond.instanceMethod yX1_push, Cond.selects RX1 yX1_push yX1_push, Cond.initialized RX1, Cond.code yX1_push cX1_push 4 none, Cond.fieldLink RX1 33 "PeatHearths$Shelf" "top" "I", Cond.fieldLink RX1 18 "PeatHearths$Shelf" "most" "I", Cond.fieldLink RX1 30 "PeatHearths$Shelf" "many" "I"]
def wsX3_strength_r2 : List Cond := [Cond.methodLink RX1 9 Lib.Math.min.name, Cond.static Lib.Math.min.name, Cond.initialized "java/lang/Math", Cond.code Lib.Math.min.name Lib.Math.min.code 2 (some .int), Cond.fieldLink RX1 26 "PeatHearths$Shelf" "rows" "[I", Cond.methodLink RX1 36 yX1_isInside, Cond.instanceMethod yX1_isInside, Cond.selects RX1 yX1_isInside yX1_isInside, Cond.code yX1_isInside cX1_isInside 2 (some .boolean), Cond.methodLink RX1 40 yX0_at, Cond.instanceMethod yX0_at, Cond.selects RX0 yX0_at yX0_at, Cond.initialized RX0, Cond.code yX0_at cX0_at 2 (some .int), Cond.fieldLink RX0 11 "PeatHearths$Land" "row" "[I", Cond.methodLink RX3 53 yX0_swap, Cond.instanceMethod yX0_swap, Cond.selects RX0 yX0_swap yX0_swap, Cond.code yX0_swap cX0_swap 4 (some .int), Cond.methodLink RX0 30 yX0_at, Cond.methodLink RX0 15 yX0_put, Cond.instanceMethod yX0_put, Cond.selects RX0 yX0_put yX0_put, Cond.code yX0_put cX0_put 3 none]
def wsX3_strength : List Cond := .code yX3_strength cX3_strength 3 (some .int) :: ((wsX3_strength_r1 ++ wsX3_strength_r2) ++ wsX30 ++ wsX10 ++ wsX00 ++ (vx_atS RX3 228 "java/lang/IndexOutOfBoundsException" ["java/lang/RuntimeException", "java/lang/Exception"]).filter goodWord ++ (vx_atS RX3 235 "java/lang/IllegalArgumentException" ["java/lang/RuntimeException", "java/lang/Exception"]).filter goodWord)
def wsX3_requireState : List Cond := .code yX3_requireState cX3_requireState 1 none :: ([.classLink RX3 236 "java/lang/IllegalStateException", .initialized "java/lang/IllegalStateException"] ++ (vx_atS RX3 240 "java/lang/IllegalStateException" ["java/lang/RuntimeException", "java/lang/Exception"]).filter goodWord)
def wsX3_work_r1 : List Cond := [Cond.fieldLink RX3 12 "PeatHearths" "land" "LPeatHearths$Land;", Cond.fieldLink RX3 24 "PeatHearths" "saved" "LPeatHearths$Shelf;", Cond.methodLink RX3 38 yX3_requireIndex, Cond.static yX3_requireIndex, Cond.initialized RX3, Cond.code yX3_requireIndex cX3_requireIndex 2 none, Cond.classLink RX3 224 "java/lang/IndexOutOfBoundsException", Cond.initialized "java/lang/IndexOutOfBoundsException", Cond.methodLink RX3 57 yX0_reasonAgainst, Cond.instanceMethod yX0_reasonAgainst, Cond.selects RX0 yX0_reasonAgainst yX0_reasonAgainst, Cond.initialized RX0, Cond.code yX0_reasonAgainst cX0_reasonAgainst 4 (some .int), Cond.methodLink RX0 19 yX0_plotOf, Cond.static yX0_plotOf, Cond.code yX0_plotOf cX0_plotOf 2 (some .int), Cond.methodLink RX0 30 yX0_at, Cond.instanceMethod yX0_at, Cond.selects RX0 yX0_at yX0_at, Cond.code yX0_at cX0_at 2 (some .int), Cond.fieldLink RX0 11 "PeatHearths$Land" "row" "[I", Cond.methodLink RX0 34 yX0_cuttersAt, Cond.instanceMethod yX0_cuttersAt, Cond.selects RX0 yX0_cuttersAt yX0_cuttersAt]
def wsX3_work_r2 : List Cond := [Cond.code yX0_cuttersAt cX0_cuttersAt 5 (some .int), Cond.methodLink RX3 60 yX3_requireState, Cond.static yX3_requireState, Cond.code yX3_requireState cX3_requireState 1 none, Cond.classLink RX3 236 "java/lang/IllegalStateException", Cond.initialized "java/lang/IllegalStateException", Cond.methodLink RX3 46 yX1_push, Cond.instanceMethod yX1_push, Cond.selects RX1 yX1_push yX1_push, Cond.initialized RX1, Cond.code yX1_push cX1_push 4 none, Cond.fieldLink RX1 33 "PeatHearths$Shelf" "top" "I", Cond.fieldLink RX1 18 "PeatHearths$Shelf" "most" "I", Cond.fieldLink RX1 30 "PeatHearths$Shelf" "many" "I", Cond.methodLink RX1 9 Lib.Math.min.name, Cond.static Lib.Math.min.name, Cond.initialized "java/lang/Math", Cond.code Lib.Math.min.name Lib.Math.min.code 2 (some .int), Cond.fieldLink RX1 26 "PeatHearths$Shelf" "rows" "[I", Cond.methodLink RX1 36 yX1_isInside, Cond.instanceMethod yX1_isInside, Cond.selects RX1 yX1_isInside yX1_isInside, Cond.code yX1_isInside cX1_isInside 2 (some .boolean), Cond.methodLink RX1 40 yX0_at]
def wsX3_work_r3 : List Cond := [Cond.methodLink RX3 64 yX0_setToWork, Cond.instanceMethod yX0_setToWork, Cond.selects RX0 yX0_setToWork yX0_setToWork, Cond.code yX0_setToWork cX0_setToWork 4 none, Cond.methodLink RX0 15 yX0_put, Cond.instanceMethod yX0_put, Cond.selects RX0 yX0_put yX0_put, Cond.code yX0_put cX0_put 3 none, Cond.methodLink RX3 67 yX0_cuttersAt]
def wsX3_work : List Cond := .code yX3_work cX3_work 4 (some .int) :: ((wsX3_work_r1 ++ (wsX3_work_r2 ++ wsX3_work_r3)) ++ wsX30 ++ wsX00 ++ wsX10 ++ (vx_atS RX3 228 "java/lang/IndexOutOfBoundsException" ["java/lang/RuntimeException", "java/lang/Exception"]).filter goodWord ++ (vx_atS RX3 240 "java/lang/IllegalStateException" ["java/lang/RuntimeException", "java/lang/Exception"]).filter goodWord)
def wsX3_rest_r1 : List Cond := [Cond.fieldLink RX3 24 "PeatHearths" "saved" "LPeatHearths$Shelf;", Cond.fieldLink RX3 12 "PeatHearths" "land" "LPeatHearths$Land;", Cond.methodLink RX3 38 yX3_requireIndex, Cond.static yX3_requireIndex, Cond.initialized RX3, Cond.code yX3_requireIndex cX3_requireIndex 2 none, Cond.classLink RX3 224 "java/lang/IndexOutOfBoundsException", Cond.initialized "java/lang/IndexOutOfBoundsException", Cond.methodLink RX3 46 yX1_push, Cond.instanceMethod yX1_push, Cond.selects RX1 yX1_push yX1_push, Cond.initialized RX1, Cond.code yX1_push cX1_push 4 none, Cond.fieldLink RX1 33 "PeatHearths$Shelf" "top" "I", Cond.fieldLink RX1 18 "PeatHearths$Shelf" "most" "I", Cond.fieldLink RX1 30 "PeatHearths$Shelf" "many" "I", Cond.methodLink RX1 9 Lib.Math.min.name, Cond.static Lib.Math.min.name, Cond.initialized "java/lang/Math", Cond.code Lib.Math.min.name Lib.Math.min.code 2 (some .int), Cond.fieldLink RX1 26 "PeatHearths$Shelf" "rows" "[I", Cond.methodLink RX1 36 yX1_isInside, Cond.instanceMethod yX1_isInside, Cond.selects RX1 yX1_isInside yX1_isInside]
def wsX3_rest_r2 : List Cond := [Cond.code yX1_isInside cX1_isInside 2 (some .boolean), Cond.methodLink RX1 40 yX0_at, Cond.instanceMethod yX0_at, Cond.selects RX0 yX0_at yX0_at, Cond.initialized RX0, Cond.code yX0_at cX0_at 2 (some .int), Cond.fieldLink RX0 11 "PeatHearths$Land" "row" "[I", Cond.methodLink RX3 70 yX0_letRest, Cond.instanceMethod yX0_letRest, Cond.selects RX0 yX0_letRest yX0_letRest, Cond.code yX0_letRest cX0_letRest 2 none, Cond.methodLink RX0 40 yX0_setToWork, Cond.instanceMethod yX0_setToWork, Cond.selects RX0 yX0_setToWork yX0_setToWork, Cond.code yX0_setToWork cX0_setToWork 4 none, Cond.methodLink RX0 15 yX0_put, Cond.instanceMethod yX0_put, Cond.selects RX0 yX0_put yX0_put, Cond.code yX0_put cX0_put 3 none, Cond.methodLink RX3 73 yX0_cuttersAtWork, Cond.instanceMethod yX0_cuttersAtWork, Cond.selects RX0 yX0_cuttersAtWork yX0_cuttersAtWork, Cond.code yX0_cuttersAtWork cX0_cuttersAtWork 3 (some .int), Cond.methodLink RX0 37 yX0_cuttersOnBank]
def wsX3_rest_r3 : List Cond := [Cond.instanceMethod yX0_cuttersOnBank, Cond.selects RX0 yX0_cuttersOnBank yX0_cuttersOnBank, Cond.code yX0_cuttersOnBank cX0_cuttersOnBank 4 (some .int), Cond.methodLink RX0 34 yX0_cuttersAt, Cond.instanceMethod yX0_cuttersAt, Cond.selects RX0 yX0_cuttersAt yX0_cuttersAt, Cond.code yX0_cuttersAt cX0_cuttersAt 5 (some .int), Cond.methodLink RX0 30 yX0_at]
def wsX3_rest : List Cond := .code yX3_rest cX3_rest 2 (some .int) :: ((wsX3_rest_r1 ++ (wsX3_rest_r2 ++ wsX3_rest_r3)) ++ wsX30 ++ wsX10 ++ wsX00 ++ (vx_atS RX3 228 "java/lang/IndexOutOfBoundsException" ["java/lang/RuntimeException", "java/lang/Exception"]).filter goodWord)
def wsX3_requireHolder : List Cond := .code yX3_requireHolder cX3_requireHolder 1 none :: ([.methodLink RX3 38 yX3_requireIndex, .static yX3_requireIndex, .initialized RX3, .code yX3_requireIndex cX3_requireIndex 2 none, .classLink RX3 224 "java/lang/IndexOutOfBoundsException", .initialized "java/lang/IndexOutOfBoundsException"] ++ (vx_atS RX3 228 "java/lang/IndexOutOfBoundsException" ["java/lang/RuntimeException", "java/lang/Exception"]).filter goodWord)
def wsX3_give_r1 : List Cond := [Cond.fieldLink RX3 12 "PeatHearths" "land" "LPeatHearths$Land;", Cond.fieldLink RX3 24 "PeatHearths" "saved" "LPeatHearths$Shelf;", Cond.methodLink RX3 77 yX3_requireHolder, Cond.static yX3_requireHolder, Cond.initialized RX3, Cond.code yX3_requireHolder cX3_requireHolder 1 none, Cond.methodLink RX3 38 yX3_requireIndex, Cond.static yX3_requireIndex, Cond.code yX3_requireIndex cX3_requireIndex 2 none, Cond.classLink RX3 224 "java/lang/IndexOutOfBoundsException", Cond.initialized "java/lang/IndexOutOfBoundsException", Cond.methodLink RX3 42 yX3_requireRange, Cond.static yX3_requireRange, Cond.code yX3_requireRange cX3_requireRange 3 none, Cond.methodLink RX3 80 yX3_requireArgument, Cond.static yX3_requireArgument, Cond.code yX3_requireArgument cX3_requireArgument 1 none, Cond.classLink RX3 231 "java/lang/IllegalArgumentException", Cond.initialized "java/lang/IllegalArgumentException", Cond.methodLink RX3 83 yX0_sharesPlace, Cond.static yX0_sharesPlace, Cond.initialized RX0, Cond.code yX0_sharesPlace cX0_sharesPlace 2 (some .int), Cond.methodLink RX0 19 yX0_plotOf]
def wsX3_give_r2 : List Cond := [Cond.static yX0_plotOf, Cond.code yX0_plotOf cX0_plotOf 2 (some .int), Cond.methodLink RX3 86 yX0_at, Cond.instanceMethod yX0_at, Cond.selects RX0 yX0_at yX0_at, Cond.code yX0_at cX0_at 2 (some .int), Cond.fieldLink RX0 11 "PeatHearths$Land" "row" "[I", Cond.methodLink RX3 60 yX3_requireState, Cond.static yX3_requireState, Cond.code yX3_requireState cX3_requireState 1 none, Cond.classLink RX3 236 "java/lang/IllegalStateException", Cond.initialized "java/lang/IllegalStateException", Cond.methodLink RX3 46 yX1_push, Cond.instanceMethod yX1_push, Cond.selects RX1 yX1_push yX1_push, Cond.initialized RX1, Cond.code yX1_push cX1_push 4 none, Cond.fieldLink RX1 33 "PeatHearths$Shelf" "top" "I", Cond.fieldLink RX1 18 "PeatHearths$Shelf" "most" "I", Cond.fieldLink RX1 30 "PeatHearths$Shelf" "many" "I", Cond.methodLink RX1 9 Lib.Math.min.name, Cond.static Lib.Math.min.name, Cond.initialized "java/lang/Math", Cond.code Lib.Math.min.name Lib.Math.min.code 2 (some .int)]
def wsX3_give_r3 : List Cond := [Cond.fieldLink RX1 26 "PeatHearths$Shelf" "rows" "[I", Cond.methodLink RX1 36 yX1_isInside, Cond.instanceMethod yX1_isInside, Cond.selects RX1 yX1_isInside yX1_isInside, Cond.code yX1_isInside cX1_isInside 2 (some .boolean), Cond.methodLink RX1 40 yX0_at, Cond.methodLink RX3 90 yX0_add, Cond.instanceMethod yX0_add, Cond.selects RX0 yX0_add yX0_add, Cond.code yX0_add cX0_add 3 none, Cond.methodLink RX0 30 yX0_at, Cond.methodLink RX0 15 yX0_put, Cond.instanceMethod yX0_put, Cond.selects RX0 yX0_put yX0_put, Cond.code yX0_put cX0_put 3 none]
def wsX3_give : List Cond := .code yX3_give cX3_give 7 (some .int) :: ((wsX3_give_r1 ++ (wsX3_give_r2 ++ wsX3_give_r3)) ++ wsX30 ++ wsX00 ++ wsX10 ++ (vx_atS RX3 228 "java/lang/IndexOutOfBoundsException" ["java/lang/RuntimeException", "java/lang/Exception"]).filter goodWord ++ (vx_atS RX3 235 "java/lang/IllegalArgumentException" ["java/lang/RuntimeException", "java/lang/Exception"]).filter goodWord ++ (vx_atS RX3 240 "java/lang/IllegalStateException" ["java/lang/RuntimeException", "java/lang/Exception"]).filter goodWord)
def wsX3_snow_r1 : List Cond := [Cond.fieldLink RX3 24 "PeatHearths" "saved" "LPeatHearths$Shelf;", Cond.fieldLink RX3 12 "PeatHearths" "land" "LPeatHearths$Land;", Cond.methodLink RX3 46 yX1_push, Cond.instanceMethod yX1_push, Cond.selects RX1 yX1_push yX1_push, Cond.initialized RX1, Cond.code yX1_push cX1_push 4 none, Cond.fieldLink RX1 33 "PeatHearths$Shelf" "top" "I", Cond.fieldLink RX1 18 "PeatHearths$Shelf" "most" "I", Cond.fieldLink RX1 30 "PeatHearths$Shelf" "many" "I", Cond.methodLink RX1 9 Lib.Math.min.name, Cond.static Lib.Math.min.name, Cond.initialized "java/lang/Math", Cond.code Lib.Math.min.name Lib.Math.min.code 2 (some .int), Cond.fieldLink RX1 26 "PeatHearths$Shelf" "rows" "[I", Cond.methodLink RX1 36 yX1_isInside, Cond.instanceMethod yX1_isInside, Cond.selects RX1 yX1_isInside yX1_isInside, Cond.code yX1_isInside cX1_isInside 2 (some .boolean), Cond.methodLink RX1 40 yX0_at, Cond.instanceMethod yX0_at, Cond.selects RX0 yX0_at yX0_at, Cond.initialized RX0, Cond.code yX0_at cX0_at 2 (some .int)]
def wsX3_snow_r2 : List Cond := [Cond.fieldLink RX0 11 "PeatHearths$Land" "row" "[I", Cond.methodLink RX3 93 yX0_turnSnow, Cond.instanceMethod yX0_turnSnow, Cond.selects RX0 yX0_turnSnow yX0_turnSnow, Cond.code yX0_turnSnow cX0_turnSnow 2 none, Cond.methodLink RX0 30 yX0_at, Cond.methodLink RX0 15 yX0_put, Cond.instanceMethod yX0_put, Cond.selects RX0 yX0_put yX0_put, Cond.code yX0_put cX0_put 3 none, Cond.methodLink RX0 26 yX0_letRest, Cond.instanceMethod yX0_letRest, Cond.selects RX0 yX0_letRest yX0_letRest, Cond.code yX0_letRest cX0_letRest 2 none, Cond.methodLink RX0 40 yX0_setToWork, Cond.instanceMethod yX0_setToWork, Cond.selects RX0 yX0_setToWork yX0_setToWork, Cond.code yX0_setToWork cX0_setToWork 4 none, Cond.methodLink RX3 86 yX0_at]
def wsX3_snow : List Cond := .code yX3_snow cX3_snow 1 (some .int) :: ((wsX3_snow_r1 ++ wsX3_snow_r2) ++ wsX30 ++ wsX10 ++ wsX00)
def wsX3_pass_r1 : List Cond := [Cond.fieldLink RX3 24 "PeatHearths" "saved" "LPeatHearths$Shelf;", Cond.fieldLink RX3 12 "PeatHearths" "land" "LPeatHearths$Land;", Cond.methodLink RX3 42 yX3_requireRange, Cond.static yX3_requireRange, Cond.initialized RX3, Cond.code yX3_requireRange cX3_requireRange 3 none, Cond.methodLink RX3 80 yX3_requireArgument, Cond.static yX3_requireArgument, Cond.code yX3_requireArgument cX3_requireArgument 1 none, Cond.classLink RX3 231 "java/lang/IllegalArgumentException", Cond.initialized "java/lang/IllegalArgumentException", Cond.methodLink RX3 46 yX1_push, Cond.instanceMethod yX1_push, Cond.selects RX1 yX1_push yX1_push, Cond.initialized RX1, Cond.code yX1_push cX1_push 4 none, Cond.fieldLink RX1 33 "PeatHearths$Shelf" "top" "I", Cond.fieldLink RX1 18 "PeatHearths$Shelf" "most" "I", Cond.fieldLink RX1 30 "PeatHearths$Shelf" "many" "I", Cond.methodLink RX1 9 Lib.Math.min.name, Cond.static Lib.Math.min.name, Cond.initialized "java/lang/Math", Cond.code Lib.Math.min.name Lib.Math.min.code 2 (some .int), Cond.fieldLink RX1 26 "PeatHearths$Shelf" "rows" "[I"]
def wsX3_pass_r2 : List Cond := [Cond.methodLink RX1 36 yX1_isInside, Cond.instanceMethod yX1_isInside, Cond.selects RX1 yX1_isInside yX1_isInside, Cond.code yX1_isInside cX1_isInside 2 (some .boolean), Cond.methodLink RX1 40 yX0_at, Cond.instanceMethod yX0_at, Cond.selects RX0 yX0_at yX0_at, Cond.initialized RX0, Cond.code yX0_at cX0_at 2 (some .int), Cond.fieldLink RX0 11 "PeatHearths$Land" "row" "[I", Cond.methodLink RX3 96 yX0_passDays, Cond.instanceMethod yX0_passDays, Cond.selects RX0 yX0_passDays yX0_passDays, Cond.code yX0_passDays cX0_passDays 4 (some .int), Cond.methodLink RX0 23 yX0_add, Cond.instanceMethod yX0_add, Cond.selects RX0 yX0_add yX0_add, Cond.code yX0_add cX0_add 3 none, Cond.methodLink RX0 30 yX0_at, Cond.methodLink RX0 15 yX0_put, Cond.instanceMethod yX0_put, Cond.selects RX0 yX0_put yX0_put, Cond.code yX0_put cX0_put 3 none, Cond.methodLink RX0 49 yX0_weather]
def wsX3_pass_r3 : List Cond := [Cond.instanceMethod yX0_weather, Cond.selects RX0 yX0_weather yX0_weather, Cond.code yX0_weather cX0_weather 3 none, Cond.methodLink RX0 68 yX0_turvesOn, Cond.instanceMethod yX0_turvesOn, Cond.selects RX0 yX0_turvesOn yX0_turvesOn, Cond.code yX0_turvesOn cX0_turvesOn 7 (some .int), Cond.methodLink RX0 72 yX0_wetAgain, Cond.instanceMethod yX0_wetAgain, Cond.selects RX0 yX0_wetAgain yX0_wetAgain, Cond.code yX0_wetAgain cX0_wetAgain 4 none, Cond.methodLink RX0 78 yX0_halfRoundedUp, Cond.static yX0_halfRoundedUp, Cond.code yX0_halfRoundedUp cX0_halfRoundedUp 1 (some .int), Cond.methodLink RX0 75 yX0_dryOut, Cond.instanceMethod yX0_dryOut, Cond.selects RX0 yX0_dryOut yX0_dryOut, Cond.code yX0_dryOut cX0_dryOut 5 none, Cond.methodLink RX0 65 Lib.Math.min.name, Cond.methodLink RX0 52 yX0_burn, Cond.instanceMethod yX0_burn, Cond.selects RX0 yX0_burn yX0_burn, Cond.code yX0_burn cX0_burn 4 none, Cond.methodLink RX0 55 yX0_cutTurves]
def wsX3_pass_r4 : List Cond := [Cond.instanceMethod yX0_cutTurves, Cond.selects RX0 yX0_cutTurves yX0_cutTurves, Cond.code yX0_cutTurves cX0_cutTurves 5 none, Cond.methodLink RX0 19 yX0_plotOf, Cond.static yX0_plotOf, Cond.code yX0_plotOf cX0_plotOf 2 (some .int), Cond.methodLink RX0 58 yX0_rainOf, Cond.instanceMethod yX0_rainOf, Cond.selects RX0 yX0_rainOf yX0_rainOf, Cond.code yX0_rainOf cX0_rainOf 2 (some .int), Cond.methodLink RX0 44 yJ9_floorMod_7cf53, Cond.static yJ9_floorMod_7cf53, Cond.initialized RJ9, Cond.code yJ9_floorMod_7cf53 cJ9_floorMod_7cf53 3 (some .int), Cond.methodLink RX0 61 yX0_goCarts, Cond.instanceMethod yX0_goCarts, Cond.selects RX0 yX0_goCarts yX0_goCarts, Cond.code yX0_goCarts cX0_goCarts 7 (some .int), Cond.methodLink RX0 81 yX0_cartHome, Cond.instanceMethod yX0_cartHome, Cond.selects RX0 yX0_cartHome yX0_cartHome, Cond.code yX0_cartHome cX0_cartHome 7 (some .int), Cond.methodLink RX0 84 yX0_poorestWidow, Cond.instanceMethod yX0_poorestWidow]
def wsX3_pass_r5 : List Cond := [Cond.selects RX0 yX0_poorestWidow yX0_poorestWidow, Cond.code yX0_poorestWidow cX0_poorestWidow 3 (some .int)]
def wsX3_pass : List Cond := .code yX3_pass cX3_pass 2 (some .int) :: ((wsX3_pass_r1 ++ (wsX3_pass_r2 ++ (wsX3_pass_r3 ++ (wsX3_pass_r4 ++ wsX3_pass_r5)))) ++ wsX30 ++ wsX10 ++ wsX00 ++ (vx_atS RX3 235 "java/lang/IllegalArgumentException" ["java/lang/RuntimeException", "java/lang/Exception"]).filter goodWord)
def wsX3_set_r1 : List Cond := [Cond.fieldLink RX3 99 "PeatHearths" "LOWEST_SETTING" "[I", Cond.fieldLink RX3 103 "PeatHearths" "HIGHEST_SETTING" "[I", Cond.fieldLink RX3 24 "PeatHearths" "saved" "LPeatHearths$Shelf;", Cond.fieldLink RX3 12 "PeatHearths" "land" "LPeatHearths$Land;", Cond.methodLink RX3 38 yX3_requireIndex, Cond.static yX3_requireIndex, Cond.initialized RX3, Cond.code yX3_requireIndex cX3_requireIndex 2 none, Cond.classLink RX3 224 "java/lang/IndexOutOfBoundsException", Cond.initialized "java/lang/IndexOutOfBoundsException", Cond.methodLink RX3 42 yX3_requireRange, Cond.static yX3_requireRange, Cond.code yX3_requireRange cX3_requireRange 3 none, Cond.methodLink RX3 80 yX3_requireArgument, Cond.static yX3_requireArgument, Cond.code yX3_requireArgument cX3_requireArgument 1 none, Cond.classLink RX3 231 "java/lang/IllegalArgumentException", Cond.initialized "java/lang/IllegalArgumentException", Cond.methodLink RX3 46 yX1_push, Cond.instanceMethod yX1_push, Cond.selects RX1 yX1_push yX1_push, Cond.initialized RX1, Cond.code yX1_push cX1_push 4 none, Cond.fieldLink RX1 33 "PeatHearths$Shelf" "top" "I"]
def wsX3_set_r2 : List Cond := [Cond.fieldLink RX1 18 "PeatHearths$Shelf" "most" "I", Cond.fieldLink RX1 30 "PeatHearths$Shelf" "many" "I", Cond.methodLink RX1 9 Lib.Math.min.name, Cond.static Lib.Math.min.name, Cond.initialized "java/lang/Math", Cond.code Lib.Math.min.name Lib.Math.min.code 2 (some .int), Cond.fieldLink RX1 26 "PeatHearths$Shelf" "rows" "[I", Cond.methodLink RX1 36 yX1_isInside, Cond.instanceMethod yX1_isInside, Cond.selects RX1 yX1_isInside yX1_isInside, Cond.code yX1_isInside cX1_isInside 2 (some .boolean), Cond.methodLink RX1 40 yX0_at, Cond.instanceMethod yX0_at, Cond.selects RX0 yX0_at yX0_at, Cond.initialized RX0, Cond.code yX0_at cX0_at 2 (some .int), Cond.fieldLink RX0 11 "PeatHearths$Land" "row" "[I", Cond.methodLink RX3 53 yX0_swap, Cond.instanceMethod yX0_swap, Cond.selects RX0 yX0_swap yX0_swap, Cond.code yX0_swap cX0_swap 4 (some .int), Cond.methodLink RX0 30 yX0_at, Cond.methodLink RX0 15 yX0_put, Cond.instanceMethod yX0_put]
def wsX3_set_r3 : List Cond := [Cond.selects RX0 yX0_put yX0_put, Cond.code yX0_put cX0_put 3 none]
def wsX3_set : List Cond := .code yX3_set cX3_set 3 (some .int) :: ((wsX3_set_r1 ++ (wsX3_set_r2 ++ wsX3_set_r3)) ++ wsX30 ++ wsX10 ++ wsX00 ++ (vx_atS RX3 228 "java/lang/IndexOutOfBoundsException" ["java/lang/RuntimeException", "java/lang/Exception"]).filter goodWord ++ (vx_atS RX3 235 "java/lang/IllegalArgumentException" ["java/lang/RuntimeException", "java/lang/Exception"]).filter goodWord)
def wsX3_append_r1 : List Cond := [Cond.fieldLink RX3 34 "PeatHearths" "text" "LPeatHearths$Text;", Cond.methodLink RX3 42 yX3_requireRange, Cond.static yX3_requireRange, Cond.initialized RX3, Cond.code yX3_requireRange cX3_requireRange 3 none, Cond.methodLink RX3 80 yX3_requireArgument, Cond.static yX3_requireArgument, Cond.code yX3_requireArgument cX3_requireArgument 1 none, Cond.classLink RX3 231 "java/lang/IllegalArgumentException", Cond.initialized "java/lang/IllegalArgumentException", Cond.methodLink RX3 106 yX2_length, Cond.instanceMethod yX2_length, Cond.selects RX2 yX2_length yX2_length, Cond.initialized RX2, Cond.code yX2_length cX2_length 1 (some .int), Cond.fieldLink RX2 15 "PeatHearths$Text" "length" "I", Cond.methodLink RX3 60 yX3_requireState, Cond.static yX3_requireState, Cond.code yX3_requireState cX3_requireState 1 none, Cond.classLink RX3 236 "java/lang/IllegalStateException", Cond.initialized "java/lang/IllegalStateException", Cond.methodLink RX3 109 yX2_push, Cond.instanceMethod yX2_push, Cond.selects RX2 yX2_push yX2_push]
def wsX3_append_r2 : List Cond := [Cond.code yX2_push cX2_push 2 none, Cond.fieldLink RX2 9 "PeatHearths$Text" "signs" "[C"]
def wsX3_append : List Cond := .code yX3_append cX3_append 2 (some .int) :: ((wsX3_append_r1 ++ wsX3_append_r2) ++ wsX30 ++ wsX20 ++ (vx_atS RX3 235 "java/lang/IllegalArgumentException" ["java/lang/RuntimeException", "java/lang/Exception"]).filter goodWord ++ (vx_atS RX3 240 "java/lang/IllegalStateException" ["java/lang/RuntimeException", "java/lang/Exception"]).filter goodWord)
def wsX3_clearBuffer : List Cond := .code yX3_clearBuffer cX3_clearBuffer 2 (some .int) :: ([.fieldLink RX3 34 "PeatHearths" "text" "LPeatHearths$Text;", .methodLink RX3 106 yX2_length, .instanceMethod yX2_length, .selects RX2 yX2_length yX2_length, .initialized RX2, .code yX2_length cX2_length 1 (some .int), .fieldLink RX2 15 "PeatHearths$Text" "length" "I", .methodLink RX3 112 yX2_wipe, .instanceMethod yX2_wipe, .selects RX2 yX2_wipe yX2_wipe, .code yX2_wipe cX2_wipe 1 none] ++ wsX30 ++ wsX20)
def wsX3_firstError_r1 : List Cond := [Cond.fieldLink RX3 34 "PeatHearths" "text" "LPeatHearths$Text;", Cond.methodLink RX3 115 yX2_rightSigns, Cond.instanceMethod yX2_rightSigns, Cond.selects RX2 yX2_rightSigns yX2_rightSigns, Cond.initialized RX2, Cond.code yX2_rightSigns cX2_rightSigns 3 (some .int), Cond.fieldLink RX2 15 "PeatHearths$Text" "length" "I", Cond.methodLink RX2 19 yX2_signAt, Cond.instanceMethod yX2_signAt, Cond.selects RX2 yX2_signAt yX2_signAt, Cond.code yX2_signAt cX2_signAt 2 (some .char), Cond.fieldLink RX2 9 "PeatHearths$Text" "signs" "[C", Cond.methodLink RX2 23 yX2_readNext, Cond.static yX2_readNext, Cond.code yX2_readNext cX2_readNext 2 (some .int), Cond.methodLink RX2 27 yX2_endsPart, Cond.static yX2_endsPart, Cond.code yX2_endsPart cX2_endsPart 1 (some .boolean), Cond.methodLink RX2 35 yX2_beginPart, Cond.static yX2_beginPart, Cond.code yX2_beginPart cX2_beginPart 1 (some .int), Cond.methodLink RX2 31 yX2_isDigit, Cond.static yX2_isDigit, Cond.code yX2_isDigit cX2_isDigit 2 (some .boolean)]
def wsX3_firstError_r2 : List Cond := [Cond.methodLink RX2 39 yX2_beginDays, Cond.static yX2_beginDays, Cond.code yX2_beginDays cX2_beginDays 1 (some .int)]
def wsX3_firstError : List Cond := .code yX3_firstError cX3_firstError 1 (some .int) :: ((wsX3_firstError_r1 ++ wsX3_firstError_r2) ++ wsX30 ++ wsX20)
def wsX3_playPart_r1 : List Cond := [Cond.fieldLink RX3 34 "PeatHearths" "text" "LPeatHearths$Text;", Cond.fieldLink RX3 12 "PeatHearths" "land" "LPeatHearths$Land;", Cond.methodLink RX3 211 yX2_signAt, Cond.instanceMethod yX2_signAt, Cond.selects RX2 yX2_signAt yX2_signAt, Cond.initialized RX2, Cond.code yX2_signAt cX2_signAt 2 (some .char), Cond.fieldLink RX2 15 "PeatHearths$Text" "length" "I", Cond.fieldLink RX2 9 "PeatHearths$Text" "signs" "[C", Cond.methodLink RX3 221 yX2_numberAt, Cond.instanceMethod yX2_numberAt, Cond.selects RX2 yX2_numberAt yX2_numberAt, Cond.code yX2_numberAt cX2_numberAt 3 (some .int), Cond.methodLink RX2 19 yX2_signAt, Cond.methodLink RX2 31 yX2_isDigit, Cond.static yX2_isDigit, Cond.code yX2_isDigit cX2_isDigit 2 (some .boolean), Cond.methodLink RX3 57 yX0_reasonAgainst, Cond.instanceMethod yX0_reasonAgainst, Cond.selects RX0 yX0_reasonAgainst yX0_reasonAgainst, Cond.initialized RX0, Cond.code yX0_reasonAgainst cX0_reasonAgainst 4 (some .int), Cond.methodLink RX0 19 yX0_plotOf, Cond.static yX0_plotOf]
def wsX3_playPart_r2 : List Cond := [Cond.code yX0_plotOf cX0_plotOf 2 (some .int), Cond.methodLink RX0 30 yX0_at, Cond.instanceMethod yX0_at, Cond.selects RX0 yX0_at yX0_at, Cond.code yX0_at cX0_at 2 (some .int), Cond.fieldLink RX0 11 "PeatHearths$Land" "row" "[I", Cond.methodLink RX0 34 yX0_cuttersAt, Cond.instanceMethod yX0_cuttersAt, Cond.selects RX0 yX0_cuttersAt yX0_cuttersAt, Cond.code yX0_cuttersAt cX0_cuttersAt 5 (some .int), Cond.methodLink RX3 64 yX0_setToWork, Cond.instanceMethod yX0_setToWork, Cond.selects RX0 yX0_setToWork yX0_setToWork, Cond.code yX0_setToWork cX0_setToWork 4 none, Cond.methodLink RX0 15 yX0_put, Cond.instanceMethod yX0_put, Cond.selects RX0 yX0_put yX0_put, Cond.code yX0_put cX0_put 3 none, Cond.methodLink RX3 70 yX0_letRest, Cond.instanceMethod yX0_letRest, Cond.selects RX0 yX0_letRest yX0_letRest, Cond.code yX0_letRest cX0_letRest 2 none, Cond.methodLink RX0 40 yX0_setToWork, Cond.methodLink RX3 96 yX0_passDays]
def wsX3_playPart_r3 : List Cond := [Cond.instanceMethod yX0_passDays, Cond.selects RX0 yX0_passDays yX0_passDays, Cond.code yX0_passDays cX0_passDays 4 (some .int), Cond.methodLink RX0 23 yX0_add, Cond.instanceMethod yX0_add, Cond.selects RX0 yX0_add yX0_add, Cond.code yX0_add cX0_add 3 none, Cond.methodLink RX0 49 yX0_weather, Cond.instanceMethod yX0_weather, Cond.selects RX0 yX0_weather yX0_weather, Cond.code yX0_weather cX0_weather 3 none, Cond.methodLink RX0 68 yX0_turvesOn, Cond.instanceMethod yX0_turvesOn, Cond.selects RX0 yX0_turvesOn yX0_turvesOn, Cond.code yX0_turvesOn cX0_turvesOn 7 (some .int), Cond.methodLink RX0 72 yX0_wetAgain, Cond.instanceMethod yX0_wetAgain, Cond.selects RX0 yX0_wetAgain yX0_wetAgain, Cond.code yX0_wetAgain cX0_wetAgain 4 none, Cond.methodLink RX0 78 yX0_halfRoundedUp, Cond.static yX0_halfRoundedUp, Cond.code yX0_halfRoundedUp cX0_halfRoundedUp 1 (some .int), Cond.methodLink RX0 75 yX0_dryOut, Cond.instanceMethod yX0_dryOut]
def wsX3_playPart_r4 : List Cond := [Cond.selects RX0 yX0_dryOut yX0_dryOut, Cond.code yX0_dryOut cX0_dryOut 5 none, Cond.methodLink RX0 65 Lib.Math.min.name, Cond.static Lib.Math.min.name, Cond.initialized "java/lang/Math", Cond.code Lib.Math.min.name Lib.Math.min.code 2 (some .int), Cond.methodLink RX0 52 yX0_burn, Cond.instanceMethod yX0_burn, Cond.selects RX0 yX0_burn yX0_burn, Cond.code yX0_burn cX0_burn 4 none, Cond.methodLink RX0 55 yX0_cutTurves, Cond.instanceMethod yX0_cutTurves, Cond.selects RX0 yX0_cutTurves yX0_cutTurves, Cond.code yX0_cutTurves cX0_cutTurves 5 none, Cond.methodLink RX0 58 yX0_rainOf, Cond.instanceMethod yX0_rainOf, Cond.selects RX0 yX0_rainOf yX0_rainOf, Cond.code yX0_rainOf cX0_rainOf 2 (some .int), Cond.methodLink RX0 44 yJ9_floorMod_7cf53, Cond.static yJ9_floorMod_7cf53, Cond.initialized RJ9, Cond.code yJ9_floorMod_7cf53 cJ9_floorMod_7cf53 3 (some .int), Cond.methodLink RX0 61 yX0_goCarts, Cond.instanceMethod yX0_goCarts]
def wsX3_playPart_r5 : List Cond := [Cond.selects RX0 yX0_goCarts yX0_goCarts, Cond.code yX0_goCarts cX0_goCarts 7 (some .int), Cond.methodLink RX0 81 yX0_cartHome, Cond.instanceMethod yX0_cartHome, Cond.selects RX0 yX0_cartHome yX0_cartHome, Cond.code yX0_cartHome cX0_cartHome 7 (some .int), Cond.methodLink RX0 84 yX0_poorestWidow, Cond.instanceMethod yX0_poorestWidow, Cond.selects RX0 yX0_poorestWidow yX0_poorestWidow, Cond.code yX0_poorestWidow cX0_poorestWidow 3 (some .int), Cond.methodLink RX3 93 yX0_turnSnow, Cond.instanceMethod yX0_turnSnow, Cond.selects RX0 yX0_turnSnow yX0_turnSnow, Cond.code yX0_turnSnow cX0_turnSnow 2 none, Cond.methodLink RX0 26 yX0_letRest]
def wsX3_playPart : List Cond := .code yX3_playPart cX3_playPart 6 (some .boolean) :: ((wsX3_playPart_r1 ++ (wsX3_playPart_r2 ++ (wsX3_playPart_r3 ++ (wsX3_playPart_r4 ++ wsX3_playPart_r5)))) ++ wsX30 ++ wsX20 ++ wsX00)
def wsX3_play_r1 : List Cond := [Cond.fieldLink RX3 34 "PeatHearths" "text" "LPeatHearths$Text;", Cond.fieldLink RX3 24 "PeatHearths" "saved" "LPeatHearths$Shelf;", Cond.fieldLink RX3 12 "PeatHearths" "land" "LPeatHearths$Land;", Cond.methodLink RX3 118 yX2_isComplete, Cond.instanceMethod yX2_isComplete, Cond.selects RX2 yX2_isComplete yX2_isComplete, Cond.initialized RX2, Cond.code yX2_isComplete cX2_isComplete 3 (some .boolean), Cond.fieldLink RX2 15 "PeatHearths$Text" "length" "I", Cond.methodLink RX2 19 yX2_signAt, Cond.instanceMethod yX2_signAt, Cond.selects RX2 yX2_signAt yX2_signAt, Cond.code yX2_signAt cX2_signAt 2 (some .char), Cond.fieldLink RX2 9 "PeatHearths$Text" "signs" "[C", Cond.methodLink RX2 23 yX2_readNext, Cond.static yX2_readNext, Cond.code yX2_readNext cX2_readNext 2 (some .int), Cond.methodLink RX2 27 yX2_endsPart, Cond.static yX2_endsPart, Cond.code yX2_endsPart cX2_endsPart 1 (some .boolean), Cond.methodLink RX2 35 yX2_beginPart, Cond.static yX2_beginPart, Cond.code yX2_beginPart cX2_beginPart 1 (some .int), Cond.methodLink RX2 31 yX2_isDigit]
def wsX3_play_r2 : List Cond := [Cond.static yX2_isDigit, Cond.code yX2_isDigit cX2_isDigit 2 (some .boolean), Cond.methodLink RX2 39 yX2_beginDays, Cond.static yX2_beginDays, Cond.code yX2_beginDays cX2_beginDays 1 (some .int), Cond.methodLink RX3 80 yX3_requireArgument, Cond.static yX3_requireArgument, Cond.initialized RX3, Cond.code yX3_requireArgument cX3_requireArgument 1 none, Cond.classLink RX3 231 "java/lang/IllegalArgumentException", Cond.initialized "java/lang/IllegalArgumentException", Cond.methodLink RX3 46 yX1_push, Cond.instanceMethod yX1_push, Cond.selects RX1 yX1_push yX1_push, Cond.initialized RX1, Cond.code yX1_push cX1_push 4 none, Cond.fieldLink RX1 33 "PeatHearths$Shelf" "top" "I", Cond.fieldLink RX1 18 "PeatHearths$Shelf" "most" "I", Cond.fieldLink RX1 30 "PeatHearths$Shelf" "many" "I", Cond.methodLink RX1 9 Lib.Math.min.name, Cond.static Lib.Math.min.name, Cond.initialized "java/lang/Math", Cond.code Lib.Math.min.name Lib.Math.min.code 2 (some .int), Cond.fieldLink RX1 26 "PeatHearths$Shelf" "rows" "[I"]
def wsX3_play_r3 : List Cond := [Cond.methodLink RX1 36 yX1_isInside, Cond.instanceMethod yX1_isInside, Cond.selects RX1 yX1_isInside yX1_isInside, Cond.code yX1_isInside cX1_isInside 2 (some .boolean), Cond.methodLink RX1 40 yX0_at, Cond.instanceMethod yX0_at, Cond.selects RX0 yX0_at yX0_at, Cond.initialized RX0, Cond.code yX0_at cX0_at 2 (some .int), Cond.fieldLink RX0 11 "PeatHearths$Land" "row" "[I", Cond.methodLink RX3 106 yX2_length, Cond.instanceMethod yX2_length, Cond.selects RX2 yX2_length yX2_length, Cond.code yX2_length cX2_length 1 (some .int), Cond.methodLink RX3 122 yX2_isPartBegin, Cond.instanceMethod yX2_isPartBegin, Cond.selects RX2 yX2_isPartBegin yX2_isPartBegin, Cond.code yX2_isPartBegin cX2_isPartBegin 2 (some .boolean), Cond.methodLink RX3 126 yX3_playPart, Cond.instanceMethod yX3_playPart, Cond.selects RX3 yX3_playPart yX3_playPart, Cond.code yX3_playPart cX3_playPart 6 (some .boolean), Cond.methodLink RX3 211 yX2_signAt, Cond.methodLink RX3 221 yX2_numberAt]
def wsX3_play_r4 : List Cond := [Cond.instanceMethod yX2_numberAt, Cond.selects RX2 yX2_numberAt yX2_numberAt, Cond.code yX2_numberAt cX2_numberAt 3 (some .int), Cond.methodLink RX3 57 yX0_reasonAgainst, Cond.instanceMethod yX0_reasonAgainst, Cond.selects RX0 yX0_reasonAgainst yX0_reasonAgainst, Cond.code yX0_reasonAgainst cX0_reasonAgainst 4 (some .int), Cond.methodLink RX0 19 yX0_plotOf, Cond.static yX0_plotOf, Cond.code yX0_plotOf cX0_plotOf 2 (some .int), Cond.methodLink RX0 30 yX0_at, Cond.methodLink RX0 34 yX0_cuttersAt, Cond.instanceMethod yX0_cuttersAt, Cond.selects RX0 yX0_cuttersAt yX0_cuttersAt, Cond.code yX0_cuttersAt cX0_cuttersAt 5 (some .int), Cond.methodLink RX3 64 yX0_setToWork, Cond.instanceMethod yX0_setToWork, Cond.selects RX0 yX0_setToWork yX0_setToWork, Cond.code yX0_setToWork cX0_setToWork 4 none, Cond.methodLink RX0 15 yX0_put, Cond.instanceMethod yX0_put, Cond.selects RX0 yX0_put yX0_put, Cond.code yX0_put cX0_put 3 none, Cond.methodLink RX3 70 yX0_letRest]
def wsX3_play_r5 : List Cond := [Cond.instanceMethod yX0_letRest, Cond.selects RX0 yX0_letRest yX0_letRest, Cond.code yX0_letRest cX0_letRest 2 none, Cond.methodLink RX0 40 yX0_setToWork, Cond.methodLink RX3 96 yX0_passDays, Cond.instanceMethod yX0_passDays, Cond.selects RX0 yX0_passDays yX0_passDays, Cond.code yX0_passDays cX0_passDays 4 (some .int), Cond.methodLink RX0 23 yX0_add, Cond.instanceMethod yX0_add, Cond.selects RX0 yX0_add yX0_add, Cond.code yX0_add cX0_add 3 none, Cond.methodLink RX0 49 yX0_weather, Cond.instanceMethod yX0_weather, Cond.selects RX0 yX0_weather yX0_weather, Cond.code yX0_weather cX0_weather 3 none, Cond.methodLink RX0 68 yX0_turvesOn, Cond.instanceMethod yX0_turvesOn, Cond.selects RX0 yX0_turvesOn yX0_turvesOn, Cond.code yX0_turvesOn cX0_turvesOn 7 (some .int), Cond.methodLink RX0 72 yX0_wetAgain, Cond.instanceMethod yX0_wetAgain, Cond.selects RX0 yX0_wetAgain yX0_wetAgain, Cond.code yX0_wetAgain cX0_wetAgain 4 none]
def wsX3_play_r6 : List Cond := [Cond.methodLink RX0 78 yX0_halfRoundedUp, Cond.static yX0_halfRoundedUp, Cond.code yX0_halfRoundedUp cX0_halfRoundedUp 1 (some .int), Cond.methodLink RX0 75 yX0_dryOut, Cond.instanceMethod yX0_dryOut, Cond.selects RX0 yX0_dryOut yX0_dryOut, Cond.code yX0_dryOut cX0_dryOut 5 none, Cond.methodLink RX0 65 Lib.Math.min.name, Cond.methodLink RX0 52 yX0_burn, Cond.instanceMethod yX0_burn, Cond.selects RX0 yX0_burn yX0_burn, Cond.code yX0_burn cX0_burn 4 none, Cond.methodLink RX0 55 yX0_cutTurves, Cond.instanceMethod yX0_cutTurves, Cond.selects RX0 yX0_cutTurves yX0_cutTurves, Cond.code yX0_cutTurves cX0_cutTurves 5 none, Cond.methodLink RX0 58 yX0_rainOf, Cond.instanceMethod yX0_rainOf, Cond.selects RX0 yX0_rainOf yX0_rainOf, Cond.code yX0_rainOf cX0_rainOf 2 (some .int), Cond.methodLink RX0 44 yJ9_floorMod_7cf53, Cond.static yJ9_floorMod_7cf53, Cond.initialized RJ9, Cond.code yJ9_floorMod_7cf53 cJ9_floorMod_7cf53 3 (some .int)]
def wsX3_play_r7 : List Cond := [Cond.methodLink RX0 61 yX0_goCarts, Cond.instanceMethod yX0_goCarts, Cond.selects RX0 yX0_goCarts yX0_goCarts, Cond.code yX0_goCarts cX0_goCarts 7 (some .int), Cond.methodLink RX0 81 yX0_cartHome, Cond.instanceMethod yX0_cartHome, Cond.selects RX0 yX0_cartHome yX0_cartHome, Cond.code yX0_cartHome cX0_cartHome 7 (some .int), Cond.methodLink RX0 84 yX0_poorestWidow, Cond.instanceMethod yX0_poorestWidow, Cond.selects RX0 yX0_poorestWidow yX0_poorestWidow, Cond.code yX0_poorestWidow cX0_poorestWidow 3 (some .int), Cond.methodLink RX3 93 yX0_turnSnow, Cond.instanceMethod yX0_turnSnow, Cond.selects RX0 yX0_turnSnow yX0_turnSnow, Cond.code yX0_turnSnow cX0_turnSnow 2 none, Cond.methodLink RX0 26 yX0_letRest, Cond.methodLink RX3 112 yX2_wipe, Cond.instanceMethod yX2_wipe, Cond.selects RX2 yX2_wipe yX2_wipe, Cond.code yX2_wipe cX2_wipe 1 none]
def wsX3_play : List Cond := .code yX3_play cX3_play 3 (some .int) :: ((wsX3_play_r1 ++ (wsX3_play_r2 ++ (wsX3_play_r3 ++ (wsX3_play_r4 ++ (wsX3_play_r5 ++ (wsX3_play_r6 ++ wsX3_play_r7)))))) ++ wsX30 ++ wsX20 ++ wsX10 ++ wsX00 ++ (vx_atS RX3 235 "java/lang/IllegalArgumentException" ["java/lang/RuntimeException", "java/lang/Exception"]).filter goodWord)
def wsX3_undo_r1 : List Cond := [Cond.fieldLink RX3 24 "PeatHearths" "saved" "LPeatHearths$Shelf;", Cond.fieldLink RX3 12 "PeatHearths" "land" "LPeatHearths$Land;", Cond.methodLink RX3 129 yX1_size, Cond.instanceMethod yX1_size, Cond.selects RX1 yX1_size yX1_size, Cond.initialized RX1, Cond.code yX1_size cX1_size 1 (some .int), Cond.fieldLink RX1 30 "PeatHearths$Shelf" "many" "I", Cond.methodLink RX3 60 yX3_requireState, Cond.static yX3_requireState, Cond.initialized RX3, Cond.code yX3_requireState cX3_requireState 1 none, Cond.classLink RX3 236 "java/lang/IllegalStateException", Cond.initialized "java/lang/IllegalStateException", Cond.methodLink RX3 132 yX1_showTop, Cond.instanceMethod yX1_showTop, Cond.selects RX1 yX1_showTop yX1_showTop, Cond.code yX1_showTop cX1_showTop 4 none, Cond.fieldLink RX1 33 "PeatHearths$Shelf" "top" "I", Cond.fieldLink RX1 26 "PeatHearths$Shelf" "rows" "[I", Cond.methodLink RX1 36 yX1_isInside, Cond.instanceMethod yX1_isInside, Cond.selects RX1 yX1_isInside yX1_isInside, Cond.code yX1_isInside cX1_isInside 2 (some .boolean)]
def wsX3_undo_r2 : List Cond := [Cond.methodLink RX1 44 yX0_put, Cond.instanceMethod yX0_put, Cond.selects RX0 yX0_put yX0_put, Cond.initialized RX0, Cond.code yX0_put cX0_put 3 none, Cond.fieldLink RX0 11 "PeatHearths$Land" "row" "[I", Cond.methodLink RX3 135 yX1_dropTop, Cond.instanceMethod yX1_dropTop, Cond.selects RX1 yX1_dropTop yX1_dropTop, Cond.code yX1_dropTop cX1_dropTop 1 none, Cond.fieldLink RX1 18 "PeatHearths$Shelf" "most" "I", Cond.methodLink RX1 15 Lib.Math.max.name, Cond.static Lib.Math.max.name, Cond.initialized "java/lang/Math", Cond.code Lib.Math.max.name Lib.Math.max.code 2 (some .int)]
def wsX3_undo : List Cond := .code yX3_undo cX3_undo 1 (some .int) :: ((wsX3_undo_r1 ++ wsX3_undo_r2) ++ wsX30 ++ wsX10 ++ wsX00 ++ (vx_atS RX3 240 "java/lang/IllegalStateException" ["java/lang/RuntimeException", "java/lang/Exception"]).filter goodWord)
def wsX3_keep_r1 : List Cond := [Cond.fieldLink RX3 28 "PeatHearths" "snapshot" "LPeatHearths$Shelf;", Cond.fieldLink RX3 12 "PeatHearths" "land" "LPeatHearths$Land;", Cond.methodLink RX3 46 yX1_push, Cond.instanceMethod yX1_push, Cond.selects RX1 yX1_push yX1_push, Cond.initialized RX1, Cond.code yX1_push cX1_push 4 none, Cond.fieldLink RX1 33 "PeatHearths$Shelf" "top" "I", Cond.fieldLink RX1 18 "PeatHearths$Shelf" "most" "I", Cond.fieldLink RX1 30 "PeatHearths$Shelf" "many" "I", Cond.methodLink RX1 9 Lib.Math.min.name, Cond.static Lib.Math.min.name, Cond.initialized "java/lang/Math", Cond.code Lib.Math.min.name Lib.Math.min.code 2 (some .int), Cond.fieldLink RX1 26 "PeatHearths$Shelf" "rows" "[I", Cond.methodLink RX1 36 yX1_isInside, Cond.instanceMethod yX1_isInside, Cond.selects RX1 yX1_isInside yX1_isInside, Cond.code yX1_isInside cX1_isInside 2 (some .boolean), Cond.methodLink RX1 40 yX0_at, Cond.instanceMethod yX0_at, Cond.selects RX0 yX0_at yX0_at, Cond.initialized RX0, Cond.code yX0_at cX0_at 2 (some .int)]
def wsX3_keep_r2 : List Cond := [Cond.fieldLink RX0 11 "PeatHearths$Land" "row" "[I", Cond.methodLink RX3 86 yX0_at]
def wsX3_keep : List Cond := .code yX3_keep cX3_keep 1 (some .int) :: ((wsX3_keep_r1 ++ wsX3_keep_r2) ++ wsX30 ++ wsX10 ++ wsX00)
def wsX3_restore_r1 : List Cond := [Cond.fieldLink RX3 28 "PeatHearths" "snapshot" "LPeatHearths$Shelf;", Cond.fieldLink RX3 24 "PeatHearths" "saved" "LPeatHearths$Shelf;", Cond.fieldLink RX3 12 "PeatHearths" "land" "LPeatHearths$Land;", Cond.methodLink RX3 129 yX1_size, Cond.instanceMethod yX1_size, Cond.selects RX1 yX1_size yX1_size, Cond.initialized RX1, Cond.code yX1_size cX1_size 1 (some .int), Cond.fieldLink RX1 30 "PeatHearths$Shelf" "many" "I", Cond.methodLink RX3 60 yX3_requireState, Cond.static yX3_requireState, Cond.initialized RX3, Cond.code yX3_requireState cX3_requireState 1 none, Cond.classLink RX3 236 "java/lang/IllegalStateException", Cond.initialized "java/lang/IllegalStateException", Cond.methodLink RX3 46 yX1_push, Cond.instanceMethod yX1_push, Cond.selects RX1 yX1_push yX1_push, Cond.code yX1_push cX1_push 4 none, Cond.fieldLink RX1 33 "PeatHearths$Shelf" "top" "I", Cond.fieldLink RX1 18 "PeatHearths$Shelf" "most" "I", Cond.methodLink RX1 9 Lib.Math.min.name, Cond.static Lib.Math.min.name, Cond.initialized "java/lang/Math"]
def wsX3_restore_r2 : List Cond := [Cond.code Lib.Math.min.name Lib.Math.min.code 2 (some .int), Cond.fieldLink RX1 26 "PeatHearths$Shelf" "rows" "[I", Cond.methodLink RX1 36 yX1_isInside, Cond.instanceMethod yX1_isInside, Cond.selects RX1 yX1_isInside yX1_isInside, Cond.code yX1_isInside cX1_isInside 2 (some .boolean), Cond.methodLink RX1 40 yX0_at, Cond.instanceMethod yX0_at, Cond.selects RX0 yX0_at yX0_at, Cond.initialized RX0, Cond.code yX0_at cX0_at 2 (some .int), Cond.fieldLink RX0 11 "PeatHearths$Land" "row" "[I", Cond.methodLink RX3 132 yX1_showTop, Cond.instanceMethod yX1_showTop, Cond.selects RX1 yX1_showTop yX1_showTop, Cond.code yX1_showTop cX1_showTop 4 none, Cond.methodLink RX1 44 yX0_put, Cond.instanceMethod yX0_put, Cond.selects RX0 yX0_put yX0_put, Cond.code yX0_put cX0_put 3 none, Cond.methodLink RX3 86 yX0_at]
def wsX3_restore : List Cond := .code yX3_restore cX3_restore 1 (some .int) :: ((wsX3_restore_r1 ++ wsX3_restore_r2) ++ wsX30 ++ wsX10 ++ wsX00 ++ (vx_atS RX3 240 "java/lang/IllegalStateException" ["java/lang/RuntimeException", "java/lang/Exception"]).filter goodWord)
def wsX3_hearthOf_r1 : List Cond := [Cond.fieldLink RX3 12 "PeatHearths" "land" "LPeatHearths$Land;", Cond.methodLink RX3 38 yX3_requireIndex, Cond.static yX3_requireIndex, Cond.initialized RX3, Cond.code yX3_requireIndex cX3_requireIndex 2 none, Cond.classLink RX3 224 "java/lang/IndexOutOfBoundsException", Cond.initialized "java/lang/IndexOutOfBoundsException", Cond.methodLink RX3 42 yX3_requireRange, Cond.static yX3_requireRange, Cond.code yX3_requireRange cX3_requireRange 3 none, Cond.methodLink RX3 80 yX3_requireArgument, Cond.static yX3_requireArgument, Cond.code yX3_requireArgument cX3_requireArgument 1 none, Cond.classLink RX3 231 "java/lang/IllegalArgumentException", Cond.initialized "java/lang/IllegalArgumentException", Cond.methodLink RX3 138 yX0_ofHearth, Cond.instanceMethod yX0_ofHearth, Cond.selects RX0 yX0_ofHearth yX0_ofHearth, Cond.initialized RX0, Cond.code yX0_ofHearth cX0_ofHearth 3 (some .int), Cond.methodLink RX0 30 yX0_at, Cond.instanceMethod yX0_at, Cond.selects RX0 yX0_at yX0_at, Cond.code yX0_at cX0_at 2 (some .int)]
def wsX3_hearthOf_r2 : List Cond := [Cond.fieldLink RX0 11 "PeatHearths$Land" "row" "[I", Cond.methodLink RX0 19 yX0_plotOf, Cond.static yX0_plotOf, Cond.code yX0_plotOf cX0_plotOf 2 (some .int), Cond.methodLink RX0 68 yX0_turvesOn, Cond.instanceMethod yX0_turvesOn, Cond.selects RX0 yX0_turvesOn yX0_turvesOn, Cond.code yX0_turvesOn cX0_turvesOn 7 (some .int), Cond.methodLink RX0 90 yX0_shortBy, Cond.instanceMethod yX0_shortBy, Cond.selects RX0 yX0_shortBy yX0_shortBy, Cond.code yX0_shortBy cX0_shortBy 2 (some .int), Cond.methodLink RX0 87 Lib.Math.max.name, Cond.static Lib.Math.max.name, Cond.initialized "java/lang/Math", Cond.code Lib.Math.max.name Lib.Math.max.code 2 (some .int), Cond.methodLink RX0 93 yX0_willBeShortBy, Cond.instanceMethod yX0_willBeShortBy, Cond.selects RX0 yX0_willBeShortBy yX0_willBeShortBy, Cond.code yX0_willBeShortBy cX0_willBeShortBy 2 (some .int), Cond.methodLink RX0 96 yX0_willBeShortByTheBook, Cond.instanceMethod yX0_willBeShortByTheBook, Cond.selects RX0 yX0_willBeShortByTheBook yX0_willBeShortByTheBook, Cond.code yX0_willBeShortByTheBook cX0_willBeShortByTheBook 4 (some .int)]
def wsX3_hearthOf : List Cond := .code yX3_hearthOf cX3_hearthOf 3 (some .int) :: ((wsX3_hearthOf_r1 ++ wsX3_hearthOf_r2) ++ wsX30 ++ wsX00 ++ (vx_atS RX3 228 "java/lang/IndexOutOfBoundsException" ["java/lang/RuntimeException", "java/lang/Exception"]).filter goodWord ++ (vx_atS RX3 235 "java/lang/IllegalArgumentException" ["java/lang/RuntimeException", "java/lang/Exception"]).filter goodWord)
def wsX3_bankOf_r1 : List Cond := [Cond.fieldLink RX3 12 "PeatHearths" "land" "LPeatHearths$Land;", Cond.methodLink RX3 38 yX3_requireIndex, Cond.static yX3_requireIndex, Cond.initialized RX3, Cond.code yX3_requireIndex cX3_requireIndex 2 none, Cond.classLink RX3 224 "java/lang/IndexOutOfBoundsException", Cond.initialized "java/lang/IndexOutOfBoundsException", Cond.methodLink RX3 42 yX3_requireRange, Cond.static yX3_requireRange, Cond.code yX3_requireRange cX3_requireRange 3 none, Cond.methodLink RX3 80 yX3_requireArgument, Cond.static yX3_requireArgument, Cond.code yX3_requireArgument cX3_requireArgument 1 none, Cond.classLink RX3 231 "java/lang/IllegalArgumentException", Cond.initialized "java/lang/IllegalArgumentException", Cond.methodLink RX3 141 yX0_ofBank, Cond.instanceMethod yX0_ofBank, Cond.selects RX0 yX0_ofBank yX0_ofBank, Cond.initialized RX0, Cond.code yX0_ofBank cX0_ofBank 3 (some .int), Cond.methodLink RX0 30 yX0_at, Cond.instanceMethod yX0_at, Cond.selects RX0 yX0_at yX0_at, Cond.code yX0_at cX0_at 2 (some .int)]
def wsX3_bankOf_r2 : List Cond := [Cond.fieldLink RX0 11 "PeatHearths$Land" "row" "[I", Cond.methodLink RX0 37 yX0_cuttersOnBank, Cond.instanceMethod yX0_cuttersOnBank, Cond.selects RX0 yX0_cuttersOnBank yX0_cuttersOnBank, Cond.code yX0_cuttersOnBank cX0_cuttersOnBank 4 (some .int), Cond.methodLink RX0 34 yX0_cuttersAt, Cond.instanceMethod yX0_cuttersAt, Cond.selects RX0 yX0_cuttersAt yX0_cuttersAt, Cond.code yX0_cuttersAt cX0_cuttersAt 5 (some .int), Cond.methodLink RX0 19 yX0_plotOf, Cond.static yX0_plotOf, Cond.code yX0_plotOf cX0_plotOf 2 (some .int), Cond.methodLink RX0 68 yX0_turvesOn, Cond.instanceMethod yX0_turvesOn, Cond.selects RX0 yX0_turvesOn yX0_turvesOn, Cond.code yX0_turvesOn cX0_turvesOn 7 (some .int)]
def wsX3_bankOf : List Cond := .code yX3_bankOf cX3_bankOf 3 (some .int) :: ((wsX3_bankOf_r1 ++ wsX3_bankOf_r2) ++ wsX30 ++ wsX00 ++ (vx_atS RX3 228 "java/lang/IndexOutOfBoundsException" ["java/lang/RuntimeException", "java/lang/Exception"]).filter goodWord ++ (vx_atS RX3 235 "java/lang/IllegalArgumentException" ["java/lang/RuntimeException", "java/lang/Exception"]).filter goodWord)
def wsX3_plot_r1 : List Cond := [Cond.fieldLink RX3 12 "PeatHearths" "land" "LPeatHearths$Land;", Cond.methodLink RX3 38 yX3_requireIndex, Cond.static yX3_requireIndex, Cond.initialized RX3, Cond.code yX3_requireIndex cX3_requireIndex 2 none, Cond.classLink RX3 224 "java/lang/IndexOutOfBoundsException", Cond.initialized "java/lang/IndexOutOfBoundsException", Cond.methodLink RX3 42 yX3_requireRange, Cond.static yX3_requireRange, Cond.code yX3_requireRange cX3_requireRange 3 none, Cond.methodLink RX3 80 yX3_requireArgument, Cond.static yX3_requireArgument, Cond.code yX3_requireArgument cX3_requireArgument 1 none, Cond.classLink RX3 231 "java/lang/IllegalArgumentException", Cond.initialized "java/lang/IllegalArgumentException", Cond.methodLink RX3 144 yX0_ofPlot, Cond.instanceMethod yX0_ofPlot, Cond.selects RX0 yX0_ofPlot yX0_ofPlot, Cond.initialized RX0, Cond.code yX0_ofPlot cX0_ofPlot 5 (some .int), Cond.methodLink RX0 19 yX0_plotOf, Cond.static yX0_plotOf, Cond.code yX0_plotOf cX0_plotOf 2 (some .int), Cond.methodLink RX0 30 yX0_at]
def wsX3_plot_r2 : List Cond := [Cond.instanceMethod yX0_at, Cond.selects RX0 yX0_at yX0_at, Cond.code yX0_at cX0_at 2 (some .int), Cond.fieldLink RX0 11 "PeatHearths$Land" "row" "[I", Cond.methodLink RX0 34 yX0_cuttersAt, Cond.instanceMethod yX0_cuttersAt, Cond.selects RX0 yX0_cuttersAt yX0_cuttersAt, Cond.code yX0_cuttersAt cX0_cuttersAt 5 (some .int)]
def wsX3_plot : List Cond := .code yX3_plot cX3_plot 4 (some .int) :: ((wsX3_plot_r1 ++ wsX3_plot_r2) ++ wsX30 ++ wsX00 ++ (vx_atS RX3 228 "java/lang/IndexOutOfBoundsException" ["java/lang/RuntimeException", "java/lang/Exception"]).filter goodWord ++ (vx_atS RX3 235 "java/lang/IllegalArgumentException" ["java/lang/RuntimeException", "java/lang/Exception"]).filter goodWord)
def wsX3_cutter_r1 : List Cond := [Cond.fieldLink RX3 12 "PeatHearths" "land" "LPeatHearths$Land;", Cond.methodLink RX3 38 yX3_requireIndex, Cond.static yX3_requireIndex, Cond.initialized RX3, Cond.code yX3_requireIndex cX3_requireIndex 2 none, Cond.classLink RX3 224 "java/lang/IndexOutOfBoundsException", Cond.initialized "java/lang/IndexOutOfBoundsException", Cond.methodLink RX3 42 yX3_requireRange, Cond.static yX3_requireRange, Cond.code yX3_requireRange cX3_requireRange 3 none, Cond.methodLink RX3 80 yX3_requireArgument, Cond.static yX3_requireArgument, Cond.code yX3_requireArgument cX3_requireArgument 1 none, Cond.classLink RX3 231 "java/lang/IllegalArgumentException", Cond.initialized "java/lang/IllegalArgumentException", Cond.methodLink RX3 148 yX0_ofCutter, Cond.instanceMethod yX0_ofCutter, Cond.selects RX0 yX0_ofCutter yX0_ofCutter, Cond.initialized RX0, Cond.code yX0_ofCutter cX0_ofCutter 3 (some .int), Cond.methodLink RX0 30 yX0_at, Cond.instanceMethod yX0_at, Cond.selects RX0 yX0_at yX0_at, Cond.code yX0_at cX0_at 2 (some .int)]
def wsX3_cutter_r2 : List Cond := [Cond.fieldLink RX0 11 "PeatHearths$Land" "row" "[I"]
def wsX3_cutter : List Cond := .code yX3_cutter cX3_cutter 3 (some .int) :: ((wsX3_cutter_r1 ++ wsX3_cutter_r2) ++ wsX30 ++ wsX00 ++ (vx_atS RX3 228 "java/lang/IndexOutOfBoundsException" ["java/lang/RuntimeException", "java/lang/Exception"]).filter goodWord ++ (vx_atS RX3 235 "java/lang/IllegalArgumentException" ["java/lang/RuntimeException", "java/lang/Exception"]).filter goodWord)
def wsX3_rain : List Cond := .code yX3_rain cX3_rain 2 (some .int) :: ([.fieldLink RX3 12 "PeatHearths" "land" "LPeatHearths$Land;", .methodLink RX3 80 yX3_requireArgument, .static yX3_requireArgument, .initialized RX3, .code yX3_requireArgument cX3_requireArgument 1 none, .classLink RX3 231 "java/lang/IllegalArgumentException", .initialized "java/lang/IllegalArgumentException", .methodLink RX3 151 yX0_rainOf, .instanceMethod yX0_rainOf, .selects RX0 yX0_rainOf yX0_rainOf, .initialized RX0, .code yX0_rainOf cX0_rainOf 2 (some .int), .methodLink RX0 44 yJ9_floorMod_7cf53, .static yJ9_floorMod_7cf53, .initialized RJ9, .code yJ9_floorMod_7cf53 cJ9_floorMod_7cf53 3 (some .int), .methodLink RX0 30 yX0_at, .instanceMethod yX0_at, .selects RX0 yX0_at yX0_at, .code yX0_at cX0_at 2 (some .int), .fieldLink RX0 11 "PeatHearths$Land" "row" "[I"] ++ wsX30 ++ wsX00 ++ (vx_atS RX3 235 "java/lang/IllegalArgumentException" ["java/lang/RuntimeException", "java/lang/Exception"]).filter goodWord)
def wsX3_count_r1 : List Cond := [Cond.fieldLink RX3 24 "PeatHearths" "saved" "LPeatHearths$Shelf;", Cond.fieldLink RX3 12 "PeatHearths" "land" "LPeatHearths$Land;", Cond.methodLink RX3 42 yX3_requireRange, Cond.static yX3_requireRange, Cond.initialized RX3, Cond.code yX3_requireRange cX3_requireRange 3 none, Cond.methodLink RX3 80 yX3_requireArgument, Cond.static yX3_requireArgument, Cond.code yX3_requireArgument cX3_requireArgument 1 none, Cond.classLink RX3 231 "java/lang/IllegalArgumentException", Cond.initialized "java/lang/IllegalArgumentException", Cond.methodLink RX3 129 yX1_size, Cond.instanceMethod yX1_size, Cond.selects RX1 yX1_size yX1_size, Cond.initialized RX1, Cond.code yX1_size cX1_size 1 (some .int), Cond.fieldLink RX1 30 "PeatHearths$Shelf" "many" "I", Cond.methodLink RX3 154 yX0_ofAll, Cond.instanceMethod yX0_ofAll, Cond.selects RX0 yX0_ofAll yX0_ofAll, Cond.initialized RX0, Cond.code yX0_ofAll cX0_ofAll 2 (some .int), Cond.methodLink RX0 30 yX0_at, Cond.instanceMethod yX0_at]
def wsX3_count_r2 : List Cond := [Cond.selects RX0 yX0_at yX0_at, Cond.code yX0_at cX0_at 2 (some .int), Cond.fieldLink RX0 11 "PeatHearths$Land" "row" "[I", Cond.methodLink RX0 99 yX0_cuttersAtWork, Cond.instanceMethod yX0_cuttersAtWork, Cond.selects RX0 yX0_cuttersAtWork yX0_cuttersAtWork, Cond.code yX0_cuttersAtWork cX0_cuttersAtWork 3 (some .int), Cond.methodLink RX0 37 yX0_cuttersOnBank, Cond.instanceMethod yX0_cuttersOnBank, Cond.selects RX0 yX0_cuttersOnBank yX0_cuttersOnBank, Cond.code yX0_cuttersOnBank cX0_cuttersOnBank 4 (some .int), Cond.methodLink RX0 34 yX0_cuttersAt, Cond.instanceMethod yX0_cuttersAt, Cond.selects RX0 yX0_cuttersAt yX0_cuttersAt, Cond.code yX0_cuttersAt cX0_cuttersAt 5 (some .int), Cond.methodLink RX0 102 yX0_sum, Cond.instanceMethod yX0_sum, Cond.selects RX0 yX0_sum yX0_sum, Cond.code yX0_sum cX0_sum 5 (some .int), Cond.methodLink RX0 105 yX0_turvesOnBanks, Cond.instanceMethod yX0_turvesOnBanks, Cond.selects RX0 yX0_turvesOnBanks yX0_turvesOnBanks, Cond.code yX0_turvesOnBanks cX0_turvesOnBanks 1 (some .int), Cond.methodLink RX0 68 yX0_turvesOn]
def wsX3_count_r3 : List Cond := [Cond.instanceMethod yX0_turvesOn, Cond.selects RX0 yX0_turvesOn yX0_turvesOn, Cond.code yX0_turvesOn cX0_turvesOn 7 (some .int), Cond.methodLink RX0 108 yX0_hearthsShort, Cond.instanceMethod yX0_hearthsShort, Cond.selects RX0 yX0_hearthsShort yX0_hearthsShort, Cond.code yX0_hearthsShort cX0_hearthsShort 3 (some .int), Cond.methodLink RX0 90 yX0_shortBy, Cond.instanceMethod yX0_shortBy, Cond.selects RX0 yX0_shortBy yX0_shortBy, Cond.code yX0_shortBy cX0_shortBy 2 (some .int), Cond.methodLink RX0 87 Lib.Math.max.name, Cond.static Lib.Math.max.name, Cond.initialized "java/lang/Math", Cond.code Lib.Math.max.name Lib.Math.max.code 2 (some .int), Cond.methodLink RX0 111 yX0_hearthsThatWillBeShort, Cond.instanceMethod yX0_hearthsThatWillBeShort, Cond.selects RX0 yX0_hearthsThatWillBeShort yX0_hearthsThatWillBeShort, Cond.code yX0_hearthsThatWillBeShort cX0_hearthsThatWillBeShort 3 (some .int), Cond.methodLink RX0 93 yX0_willBeShortBy, Cond.instanceMethod yX0_willBeShortBy, Cond.selects RX0 yX0_willBeShortBy yX0_willBeShortBy, Cond.code yX0_willBeShortBy cX0_willBeShortBy 2 (some .int), Cond.methodLink RX0 19 yX0_plotOf]
def wsX3_count_r4 : List Cond := [Cond.static yX0_plotOf, Cond.code yX0_plotOf cX0_plotOf 2 (some .int)]
def wsX3_count : List Cond := .code yX3_count cX3_count 2 (some .int) :: ((wsX3_count_r1 ++ (wsX3_count_r2 ++ (wsX3_count_r3 ++ wsX3_count_r4))) ++ wsX30 ++ wsX10 ++ wsX00 ++ (vx_atS RX3 235 "java/lang/IllegalArgumentException" ["java/lang/RuntimeException", "java/lang/Exception"]).filter goodWord)
def wsX3_whyNot : List Cond := .code yX3_whyNot cX3_whyNot 4 (some .int) :: ([.fieldLink RX3 12 "PeatHearths" "land" "LPeatHearths$Land;", .methodLink RX3 38 yX3_requireIndex, .static yX3_requireIndex, .initialized RX3, .code yX3_requireIndex cX3_requireIndex 2 none, .classLink RX3 224 "java/lang/IndexOutOfBoundsException", .initialized "java/lang/IndexOutOfBoundsException", .methodLink RX3 57 yX0_reasonAgainst, .instanceMethod yX0_reasonAgainst, .selects RX0 yX0_reasonAgainst yX0_reasonAgainst, .initialized RX0, .code yX0_reasonAgainst cX0_reasonAgainst 4 (some .int), .methodLink RX0 19 yX0_plotOf, .static yX0_plotOf, .code yX0_plotOf cX0_plotOf 2 (some .int), .methodLink RX0 30 yX0_at, .instanceMethod yX0_at, .selects RX0 yX0_at yX0_at, .code yX0_at cX0_at 2 (some .int), .fieldLink RX0 11 "PeatHearths$Land" "row" "[I", .methodLink RX0 34 yX0_cuttersAt, .instanceMethod yX0_cuttersAt, .selects RX0 yX0_cuttersAt yX0_cuttersAt, .code yX0_cuttersAt cX0_cuttersAt 5 (some .int)] ++ wsX30 ++ wsX00 ++ (vx_atS RX3 228 "java/lang/IndexOutOfBoundsException" ["java/lang/RuntimeException", "java/lang/Exception"]).filter goodWord)
def wsX3_ifPassed_r1 : List Cond := [Cond.fieldLink RX3 16 "PeatHearths" "trial" "LPeatHearths$Land;", Cond.fieldLink RX3 12 "PeatHearths" "land" "LPeatHearths$Land;", Cond.methodLink RX3 42 yX3_requireRange, Cond.static yX3_requireRange, Cond.initialized RX3, Cond.code yX3_requireRange cX3_requireRange 3 none, Cond.methodLink RX3 80 yX3_requireArgument, Cond.static yX3_requireArgument, Cond.code yX3_requireArgument cX3_requireArgument 1 none, Cond.classLink RX3 231 "java/lang/IllegalArgumentException", Cond.initialized "java/lang/IllegalArgumentException", Cond.methodLink RX3 157 yX0_copyFrom, Cond.instanceMethod yX0_copyFrom, Cond.selects RX0 yX0_copyFrom yX0_copyFrom, Cond.initialized RX0, Cond.code yX0_copyFrom cX0_copyFrom 3 none, Cond.methodLink RX0 30 yX0_at, Cond.instanceMethod yX0_at, Cond.selects RX0 yX0_at yX0_at, Cond.code yX0_at cX0_at 2 (some .int), Cond.fieldLink RX0 11 "PeatHearths$Land" "row" "[I", Cond.methodLink RX0 15 yX0_put, Cond.instanceMethod yX0_put, Cond.selects RX0 yX0_put yX0_put]
def wsX3_ifPassed_r2 : List Cond := [Cond.code yX0_put cX0_put 3 none, Cond.methodLink RX3 96 yX0_passDays, Cond.instanceMethod yX0_passDays, Cond.selects RX0 yX0_passDays yX0_passDays, Cond.code yX0_passDays cX0_passDays 4 (some .int), Cond.methodLink RX0 23 yX0_add, Cond.instanceMethod yX0_add, Cond.selects RX0 yX0_add yX0_add, Cond.code yX0_add cX0_add 3 none, Cond.methodLink RX0 49 yX0_weather, Cond.instanceMethod yX0_weather, Cond.selects RX0 yX0_weather yX0_weather, Cond.code yX0_weather cX0_weather 3 none, Cond.methodLink RX0 68 yX0_turvesOn, Cond.instanceMethod yX0_turvesOn, Cond.selects RX0 yX0_turvesOn yX0_turvesOn, Cond.code yX0_turvesOn cX0_turvesOn 7 (some .int), Cond.methodLink RX0 72 yX0_wetAgain, Cond.instanceMethod yX0_wetAgain, Cond.selects RX0 yX0_wetAgain yX0_wetAgain, Cond.code yX0_wetAgain cX0_wetAgain 4 none, Cond.methodLink RX0 78 yX0_halfRoundedUp, Cond.static yX0_halfRoundedUp, Cond.code yX0_halfRoundedUp cX0_halfRoundedUp 1 (some .int)]
def wsX3_ifPassed_r3 : List Cond := [Cond.methodLink RX0 75 yX0_dryOut, Cond.instanceMethod yX0_dryOut, Cond.selects RX0 yX0_dryOut yX0_dryOut, Cond.code yX0_dryOut cX0_dryOut 5 none, Cond.methodLink RX0 65 Lib.Math.min.name, Cond.static Lib.Math.min.name, Cond.initialized "java/lang/Math", Cond.code Lib.Math.min.name Lib.Math.min.code 2 (some .int), Cond.methodLink RX0 52 yX0_burn, Cond.instanceMethod yX0_burn, Cond.selects RX0 yX0_burn yX0_burn, Cond.code yX0_burn cX0_burn 4 none, Cond.methodLink RX0 55 yX0_cutTurves, Cond.instanceMethod yX0_cutTurves, Cond.selects RX0 yX0_cutTurves yX0_cutTurves, Cond.code yX0_cutTurves cX0_cutTurves 5 none, Cond.methodLink RX0 19 yX0_plotOf, Cond.static yX0_plotOf, Cond.code yX0_plotOf cX0_plotOf 2 (some .int), Cond.methodLink RX0 58 yX0_rainOf, Cond.instanceMethod yX0_rainOf, Cond.selects RX0 yX0_rainOf yX0_rainOf, Cond.code yX0_rainOf cX0_rainOf 2 (some .int), Cond.methodLink RX0 44 yJ9_floorMod_7cf53]
def wsX3_ifPassed_r4 : List Cond := [Cond.static yJ9_floorMod_7cf53, Cond.initialized RJ9, Cond.code yJ9_floorMod_7cf53 cJ9_floorMod_7cf53 3 (some .int), Cond.methodLink RX0 61 yX0_goCarts, Cond.instanceMethod yX0_goCarts, Cond.selects RX0 yX0_goCarts yX0_goCarts, Cond.code yX0_goCarts cX0_goCarts 7 (some .int), Cond.methodLink RX0 81 yX0_cartHome, Cond.instanceMethod yX0_cartHome, Cond.selects RX0 yX0_cartHome yX0_cartHome, Cond.code yX0_cartHome cX0_cartHome 7 (some .int), Cond.methodLink RX0 84 yX0_poorestWidow, Cond.instanceMethod yX0_poorestWidow, Cond.selects RX0 yX0_poorestWidow yX0_poorestWidow, Cond.code yX0_poorestWidow cX0_poorestWidow 3 (some .int), Cond.methodLink RX3 160 yX0_hearthsShort, Cond.instanceMethod yX0_hearthsShort, Cond.selects RX0 yX0_hearthsShort yX0_hearthsShort, Cond.code yX0_hearthsShort cX0_hearthsShort 3 (some .int), Cond.methodLink RX0 90 yX0_shortBy, Cond.instanceMethod yX0_shortBy, Cond.selects RX0 yX0_shortBy yX0_shortBy, Cond.code yX0_shortBy cX0_shortBy 2 (some .int), Cond.methodLink RX0 87 Lib.Math.max.name]
def wsX3_ifPassed_r5 : List Cond := [Cond.static Lib.Math.max.name, Cond.code Lib.Math.max.name Lib.Math.max.code 2 (some .int), Cond.methodLink RX3 163 yX0_sum, Cond.instanceMethod yX0_sum, Cond.selects RX0 yX0_sum yX0_sum, Cond.code yX0_sum cX0_sum 5 (some .int)]
def wsX3_ifPassed : List Cond := .code yX3_ifPassed cX3_ifPassed 4 (some .int) :: ((wsX3_ifPassed_r1 ++ (wsX3_ifPassed_r2 ++ (wsX3_ifPassed_r3 ++ (wsX3_ifPassed_r4 ++ wsX3_ifPassed_r5)))) ++ wsX30 ++ wsX00 ++ (vx_atS RX3 235 "java/lang/IllegalArgumentException" ["java/lang/RuntimeException", "java/lang/Exception"]).filter goodWord)
def wsX3_enoughIn_r1 : List Cond := [Cond.fieldLink RX3 16 "PeatHearths" "trial" "LPeatHearths$Land;", Cond.fieldLink RX3 12 "PeatHearths" "land" "LPeatHearths$Land;", Cond.methodLink RX3 38 yX3_requireIndex, Cond.static yX3_requireIndex, Cond.initialized RX3, Cond.code yX3_requireIndex cX3_requireIndex 2 none, Cond.classLink RX3 224 "java/lang/IndexOutOfBoundsException", Cond.initialized "java/lang/IndexOutOfBoundsException", Cond.methodLink RX3 157 yX0_copyFrom, Cond.instanceMethod yX0_copyFrom, Cond.selects RX0 yX0_copyFrom yX0_copyFrom, Cond.initialized RX0, Cond.code yX0_copyFrom cX0_copyFrom 3 none, Cond.methodLink RX0 30 yX0_at, Cond.instanceMethod yX0_at, Cond.selects RX0 yX0_at yX0_at, Cond.code yX0_at cX0_at 2 (some .int), Cond.fieldLink RX0 11 "PeatHearths$Land" "row" "[I", Cond.methodLink RX0 15 yX0_put, Cond.instanceMethod yX0_put, Cond.selects RX0 yX0_put yX0_put, Cond.code yX0_put cX0_put 3 none, Cond.methodLink RX3 166 yX0_shortBy, Cond.instanceMethod yX0_shortBy]
def wsX3_enoughIn_r2 : List Cond := [Cond.selects RX0 yX0_shortBy yX0_shortBy, Cond.code yX0_shortBy cX0_shortBy 2 (some .int), Cond.methodLink RX0 87 Lib.Math.max.name, Cond.static Lib.Math.max.name, Cond.initialized "java/lang/Math", Cond.code Lib.Math.max.name Lib.Math.max.code 2 (some .int), Cond.methodLink RX3 96 yX0_passDays, Cond.instanceMethod yX0_passDays, Cond.selects RX0 yX0_passDays yX0_passDays, Cond.code yX0_passDays cX0_passDays 4 (some .int), Cond.methodLink RX0 23 yX0_add, Cond.instanceMethod yX0_add, Cond.selects RX0 yX0_add yX0_add, Cond.code yX0_add cX0_add 3 none, Cond.methodLink RX0 49 yX0_weather, Cond.instanceMethod yX0_weather, Cond.selects RX0 yX0_weather yX0_weather, Cond.code yX0_weather cX0_weather 3 none, Cond.methodLink RX0 68 yX0_turvesOn, Cond.instanceMethod yX0_turvesOn, Cond.selects RX0 yX0_turvesOn yX0_turvesOn, Cond.code yX0_turvesOn cX0_turvesOn 7 (some .int), Cond.methodLink RX0 72 yX0_wetAgain, Cond.instanceMethod yX0_wetAgain]
def wsX3_enoughIn_r3 : List Cond := [Cond.selects RX0 yX0_wetAgain yX0_wetAgain, Cond.code yX0_wetAgain cX0_wetAgain 4 none, Cond.methodLink RX0 78 yX0_halfRoundedUp, Cond.static yX0_halfRoundedUp, Cond.code yX0_halfRoundedUp cX0_halfRoundedUp 1 (some .int), Cond.methodLink RX0 75 yX0_dryOut, Cond.instanceMethod yX0_dryOut, Cond.selects RX0 yX0_dryOut yX0_dryOut, Cond.code yX0_dryOut cX0_dryOut 5 none, Cond.methodLink RX0 65 Lib.Math.min.name, Cond.static Lib.Math.min.name, Cond.code Lib.Math.min.name Lib.Math.min.code 2 (some .int), Cond.methodLink RX0 52 yX0_burn, Cond.instanceMethod yX0_burn, Cond.selects RX0 yX0_burn yX0_burn, Cond.code yX0_burn cX0_burn 4 none, Cond.methodLink RX0 55 yX0_cutTurves, Cond.instanceMethod yX0_cutTurves, Cond.selects RX0 yX0_cutTurves yX0_cutTurves, Cond.code yX0_cutTurves cX0_cutTurves 5 none, Cond.methodLink RX0 19 yX0_plotOf, Cond.static yX0_plotOf, Cond.code yX0_plotOf cX0_plotOf 2 (some .int), Cond.methodLink RX0 58 yX0_rainOf]
def wsX3_enoughIn_r4 : List Cond := [Cond.instanceMethod yX0_rainOf, Cond.selects RX0 yX0_rainOf yX0_rainOf, Cond.code yX0_rainOf cX0_rainOf 2 (some .int), Cond.methodLink RX0 44 yJ9_floorMod_7cf53, Cond.static yJ9_floorMod_7cf53, Cond.initialized RJ9, Cond.code yJ9_floorMod_7cf53 cJ9_floorMod_7cf53 3 (some .int), Cond.methodLink RX0 61 yX0_goCarts, Cond.instanceMethod yX0_goCarts, Cond.selects RX0 yX0_goCarts yX0_goCarts, Cond.code yX0_goCarts cX0_goCarts 7 (some .int), Cond.methodLink RX0 81 yX0_cartHome, Cond.instanceMethod yX0_cartHome, Cond.selects RX0 yX0_cartHome yX0_cartHome, Cond.code yX0_cartHome cX0_cartHome 7 (some .int), Cond.methodLink RX0 84 yX0_poorestWidow, Cond.instanceMethod yX0_poorestWidow, Cond.selects RX0 yX0_poorestWidow yX0_poorestWidow, Cond.code yX0_poorestWidow cX0_poorestWidow 3 (some .int)]
def wsX3_enoughIn : List Cond := .code yX3_enoughIn cX3_enoughIn 3 (some .int) :: ((wsX3_enoughIn_r1 ++ (wsX3_enoughIn_r2 ++ (wsX3_enoughIn_r3 ++ wsX3_enoughIn_r4))) ++ wsX30 ++ wsX00 ++ (vx_atS RX3 228 "java/lang/IndexOutOfBoundsException" ["java/lang/RuntimeException", "java/lang/Exception"]).filter goodWord)
def wsX3_bestBank_r1 : List Cond := [Cond.fieldLink RX3 12 "PeatHearths" "land" "LPeatHearths$Land;", Cond.fieldLink RX3 16 "PeatHearths" "trial" "LPeatHearths$Land;", Cond.methodLink RX3 38 yX3_requireIndex, Cond.static yX3_requireIndex, Cond.initialized RX3, Cond.code yX3_requireIndex cX3_requireIndex 2 none, Cond.classLink RX3 224 "java/lang/IndexOutOfBoundsException", Cond.initialized "java/lang/IndexOutOfBoundsException", Cond.methodLink RX3 57 yX0_reasonAgainst, Cond.instanceMethod yX0_reasonAgainst, Cond.selects RX0 yX0_reasonAgainst yX0_reasonAgainst, Cond.initialized RX0, Cond.code yX0_reasonAgainst cX0_reasonAgainst 4 (some .int), Cond.methodLink RX0 19 yX0_plotOf, Cond.static yX0_plotOf, Cond.code yX0_plotOf cX0_plotOf 2 (some .int), Cond.methodLink RX0 30 yX0_at, Cond.instanceMethod yX0_at, Cond.selects RX0 yX0_at yX0_at, Cond.code yX0_at cX0_at 2 (some .int), Cond.fieldLink RX0 11 "PeatHearths$Land" "row" "[I", Cond.methodLink RX0 34 yX0_cuttersAt, Cond.instanceMethod yX0_cuttersAt, Cond.selects RX0 yX0_cuttersAt yX0_cuttersAt]
def wsX3_bestBank_r2 : List Cond := [Cond.code yX0_cuttersAt cX0_cuttersAt 5 (some .int), Cond.methodLink RX3 157 yX0_copyFrom, Cond.instanceMethod yX0_copyFrom, Cond.selects RX0 yX0_copyFrom yX0_copyFrom, Cond.code yX0_copyFrom cX0_copyFrom 3 none, Cond.methodLink RX0 15 yX0_put, Cond.instanceMethod yX0_put, Cond.selects RX0 yX0_put yX0_put, Cond.code yX0_put cX0_put 3 none, Cond.methodLink RX3 64 yX0_setToWork, Cond.instanceMethod yX0_setToWork, Cond.selects RX0 yX0_setToWork yX0_setToWork, Cond.code yX0_setToWork cX0_setToWork 4 none, Cond.methodLink RX3 96 yX0_passDays, Cond.instanceMethod yX0_passDays, Cond.selects RX0 yX0_passDays yX0_passDays, Cond.code yX0_passDays cX0_passDays 4 (some .int), Cond.methodLink RX0 23 yX0_add, Cond.instanceMethod yX0_add, Cond.selects RX0 yX0_add yX0_add, Cond.code yX0_add cX0_add 3 none, Cond.methodLink RX0 49 yX0_weather, Cond.instanceMethod yX0_weather, Cond.selects RX0 yX0_weather yX0_weather]
def wsX3_bestBank_r3 : List Cond := [Cond.code yX0_weather cX0_weather 3 none, Cond.methodLink RX0 68 yX0_turvesOn, Cond.instanceMethod yX0_turvesOn, Cond.selects RX0 yX0_turvesOn yX0_turvesOn, Cond.code yX0_turvesOn cX0_turvesOn 7 (some .int), Cond.methodLink RX0 72 yX0_wetAgain, Cond.instanceMethod yX0_wetAgain, Cond.selects RX0 yX0_wetAgain yX0_wetAgain, Cond.code yX0_wetAgain cX0_wetAgain 4 none, Cond.methodLink RX0 78 yX0_halfRoundedUp, Cond.static yX0_halfRoundedUp, Cond.code yX0_halfRoundedUp cX0_halfRoundedUp 1 (some .int), Cond.methodLink RX0 75 yX0_dryOut, Cond.instanceMethod yX0_dryOut, Cond.selects RX0 yX0_dryOut yX0_dryOut, Cond.code yX0_dryOut cX0_dryOut 5 none, Cond.methodLink RX0 65 Lib.Math.min.name, Cond.static Lib.Math.min.name, Cond.initialized "java/lang/Math", Cond.code Lib.Math.min.name Lib.Math.min.code 2 (some .int), Cond.methodLink RX0 52 yX0_burn, Cond.instanceMethod yX0_burn, Cond.selects RX0 yX0_burn yX0_burn, Cond.code yX0_burn cX0_burn 4 none]
def wsX3_bestBank_r4 : List Cond := [Cond.methodLink RX0 55 yX0_cutTurves, Cond.instanceMethod yX0_cutTurves, Cond.selects RX0 yX0_cutTurves yX0_cutTurves, Cond.code yX0_cutTurves cX0_cutTurves 5 none, Cond.methodLink RX0 58 yX0_rainOf, Cond.instanceMethod yX0_rainOf, Cond.selects RX0 yX0_rainOf yX0_rainOf, Cond.code yX0_rainOf cX0_rainOf 2 (some .int), Cond.methodLink RX0 44 yJ9_floorMod_7cf53, Cond.static yJ9_floorMod_7cf53, Cond.initialized RJ9, Cond.code yJ9_floorMod_7cf53 cJ9_floorMod_7cf53 3 (some .int), Cond.methodLink RX0 61 yX0_goCarts, Cond.instanceMethod yX0_goCarts, Cond.selects RX0 yX0_goCarts yX0_goCarts, Cond.code yX0_goCarts cX0_goCarts 7 (some .int), Cond.methodLink RX0 81 yX0_cartHome, Cond.instanceMethod yX0_cartHome, Cond.selects RX0 yX0_cartHome yX0_cartHome, Cond.code yX0_cartHome cX0_cartHome 7 (some .int), Cond.methodLink RX0 84 yX0_poorestWidow, Cond.instanceMethod yX0_poorestWidow, Cond.selects RX0 yX0_poorestWidow yX0_poorestWidow, Cond.code yX0_poorestWidow cX0_poorestWidow 3 (some .int)]
def wsX3_bestBank_r5 : List Cond := [Cond.methodLink RX3 86 yX0_at]
def wsX3_bestBank : List Cond := .code yX3_bestBank cX3_bestBank 7 (some .int) :: ((wsX3_bestBank_r1 ++ (wsX3_bestBank_r2 ++ (wsX3_bestBank_r3 ++ (wsX3_bestBank_r4 ++ wsX3_bestBank_r5)))) ++ wsX30 ++ wsX00 ++ (vx_atS RX3 228 "java/lang/IndexOutOfBoundsException" ["java/lang/RuntimeException", "java/lang/Exception"]).filter goodWord)
def wsX3_dryness : List Cond := .code yX3_dryness cX3_dryness 2 (some .double) :: ([.fieldLink RX3 12 "PeatHearths" "land" "LPeatHearths$Land;", .methodLink RX3 169 yX0_turvesOnBanks, .instanceMethod yX0_turvesOnBanks, .selects RX0 yX0_turvesOnBanks yX0_turvesOnBanks, .initialized RX0, .code yX0_turvesOnBanks cX0_turvesOnBanks 1 (some .int), .methodLink RX0 68 yX0_turvesOn, .instanceMethod yX0_turvesOn, .selects RX0 yX0_turvesOn yX0_turvesOn, .code yX0_turvesOn cX0_turvesOn 7 (some .int), .methodLink RX0 30 yX0_at, .instanceMethod yX0_at, .selects RX0 yX0_at yX0_at, .code yX0_at cX0_at 2 (some .int), .fieldLink RX0 11 "PeatHearths$Land" "row" "[I", .methodLink RX3 163 yX0_sum, .instanceMethod yX0_sum, .selects RX0 yX0_sum yX0_sum, .code yX0_sum cX0_sum 5 (some .int)] ++ wsX30 ++ wsX00)
def wsX3_bitsOf : List Cond := .code yX3_bitsOf cX3_bitsOf 7 (some .long) :: ([.constantLong RX3 215 (1023), .constantDouble RX3 217 (4611686018427387904), .constantDouble RX3 219 (4841369599423283200)])
def wsX3_digest_r1 : List Cond := [Cond.constantLong RX3 172 (3739), Cond.constantLong RX3 174 (31), Cond.fieldLink RX3 34 "PeatHearths" "text" "LPeatHearths$Text;", Cond.methodLink RX3 176 yX3_count, Cond.instanceMethod yX3_count, Cond.selects RX3 yX3_count yX3_count, Cond.initialized RX3, Cond.code yX3_count cX3_count 2 (some .int), Cond.fieldLink RX3 24 "PeatHearths" "saved" "LPeatHearths$Shelf;", Cond.fieldLink RX3 12 "PeatHearths" "land" "LPeatHearths$Land;", Cond.methodLink RX3 42 yX3_requireRange, Cond.static yX3_requireRange, Cond.code yX3_requireRange cX3_requireRange 3 none, Cond.methodLink RX3 80 yX3_requireArgument, Cond.static yX3_requireArgument, Cond.code yX3_requireArgument cX3_requireArgument 1 none, Cond.classLink RX3 231 "java/lang/IllegalArgumentException", Cond.initialized "java/lang/IllegalArgumentException", Cond.methodLink RX3 129 yX1_size, Cond.instanceMethod yX1_size, Cond.selects RX1 yX1_size yX1_size, Cond.initialized RX1, Cond.code yX1_size cX1_size 1 (some .int), Cond.fieldLink RX1 30 "PeatHearths$Shelf" "many" "I"]
def wsX3_digest_r2 : List Cond := [Cond.methodLink RX3 154 yX0_ofAll, Cond.instanceMethod yX0_ofAll, Cond.selects RX0 yX0_ofAll yX0_ofAll, Cond.initialized RX0, Cond.code yX0_ofAll cX0_ofAll 2 (some .int), Cond.methodLink RX0 30 yX0_at, Cond.instanceMethod yX0_at, Cond.selects RX0 yX0_at yX0_at, Cond.code yX0_at cX0_at 2 (some .int), Cond.fieldLink RX0 11 "PeatHearths$Land" "row" "[I", Cond.methodLink RX0 99 yX0_cuttersAtWork, Cond.instanceMethod yX0_cuttersAtWork, Cond.selects RX0 yX0_cuttersAtWork yX0_cuttersAtWork, Cond.code yX0_cuttersAtWork cX0_cuttersAtWork 3 (some .int), Cond.methodLink RX0 37 yX0_cuttersOnBank, Cond.instanceMethod yX0_cuttersOnBank, Cond.selects RX0 yX0_cuttersOnBank yX0_cuttersOnBank, Cond.code yX0_cuttersOnBank cX0_cuttersOnBank 4 (some .int), Cond.methodLink RX0 34 yX0_cuttersAt, Cond.instanceMethod yX0_cuttersAt, Cond.selects RX0 yX0_cuttersAt yX0_cuttersAt, Cond.code yX0_cuttersAt cX0_cuttersAt 5 (some .int), Cond.methodLink RX0 102 yX0_sum, Cond.instanceMethod yX0_sum]
def wsX3_digest_r3 : List Cond := [Cond.selects RX0 yX0_sum yX0_sum, Cond.code yX0_sum cX0_sum 5 (some .int), Cond.methodLink RX0 105 yX0_turvesOnBanks, Cond.instanceMethod yX0_turvesOnBanks, Cond.selects RX0 yX0_turvesOnBanks yX0_turvesOnBanks, Cond.code yX0_turvesOnBanks cX0_turvesOnBanks 1 (some .int), Cond.methodLink RX0 68 yX0_turvesOn, Cond.instanceMethod yX0_turvesOn, Cond.selects RX0 yX0_turvesOn yX0_turvesOn, Cond.code yX0_turvesOn cX0_turvesOn 7 (some .int), Cond.methodLink RX0 108 yX0_hearthsShort, Cond.instanceMethod yX0_hearthsShort, Cond.selects RX0 yX0_hearthsShort yX0_hearthsShort, Cond.code yX0_hearthsShort cX0_hearthsShort 3 (some .int), Cond.methodLink RX0 90 yX0_shortBy, Cond.instanceMethod yX0_shortBy, Cond.selects RX0 yX0_shortBy yX0_shortBy, Cond.code yX0_shortBy cX0_shortBy 2 (some .int), Cond.methodLink RX0 87 Lib.Math.max.name, Cond.static Lib.Math.max.name, Cond.initialized "java/lang/Math", Cond.code Lib.Math.max.name Lib.Math.max.code 2 (some .int), Cond.methodLink RX0 111 yX0_hearthsThatWillBeShort, Cond.instanceMethod yX0_hearthsThatWillBeShort]
def wsX3_digest_r4 : List Cond := [Cond.selects RX0 yX0_hearthsThatWillBeShort yX0_hearthsThatWillBeShort, Cond.code yX0_hearthsThatWillBeShort cX0_hearthsThatWillBeShort 3 (some .int), Cond.methodLink RX0 93 yX0_willBeShortBy, Cond.instanceMethod yX0_willBeShortBy, Cond.selects RX0 yX0_willBeShortBy yX0_willBeShortBy, Cond.code yX0_willBeShortBy cX0_willBeShortBy 2 (some .int), Cond.methodLink RX0 19 yX0_plotOf, Cond.static yX0_plotOf, Cond.code yX0_plotOf cX0_plotOf 2 (some .int), Cond.methodLink RX3 179 yX3_hearthOf, Cond.instanceMethod yX3_hearthOf, Cond.selects RX3 yX3_hearthOf yX3_hearthOf, Cond.code yX3_hearthOf cX3_hearthOf 3 (some .int), Cond.methodLink RX3 38 yX3_requireIndex, Cond.static yX3_requireIndex, Cond.code yX3_requireIndex cX3_requireIndex 2 none, Cond.classLink RX3 224 "java/lang/IndexOutOfBoundsException", Cond.initialized "java/lang/IndexOutOfBoundsException", Cond.methodLink RX3 138 yX0_ofHearth, Cond.instanceMethod yX0_ofHearth, Cond.selects RX0 yX0_ofHearth yX0_ofHearth, Cond.code yX0_ofHearth cX0_ofHearth 3 (some .int), Cond.methodLink RX0 96 yX0_willBeShortByTheBook, Cond.instanceMethod yX0_willBeShortByTheBook]
def wsX3_digest_r5 : List Cond := [Cond.selects RX0 yX0_willBeShortByTheBook yX0_willBeShortByTheBook, Cond.code yX0_willBeShortByTheBook cX0_willBeShortByTheBook 4 (some .int), Cond.methodLink RX3 182 yX3_plot, Cond.instanceMethod yX3_plot, Cond.selects RX3 yX3_plot yX3_plot, Cond.code yX3_plot cX3_plot 4 (some .int), Cond.methodLink RX3 144 yX0_ofPlot, Cond.instanceMethod yX0_ofPlot, Cond.selects RX0 yX0_ofPlot yX0_ofPlot, Cond.code yX0_ofPlot cX0_ofPlot 5 (some .int), Cond.methodLink RX3 185 yX3_enoughIn, Cond.instanceMethod yX3_enoughIn, Cond.selects RX3 yX3_enoughIn yX3_enoughIn, Cond.code yX3_enoughIn cX3_enoughIn 3 (some .int), Cond.fieldLink RX3 16 "PeatHearths" "trial" "LPeatHearths$Land;", Cond.methodLink RX3 157 yX0_copyFrom, Cond.instanceMethod yX0_copyFrom, Cond.selects RX0 yX0_copyFrom yX0_copyFrom, Cond.code yX0_copyFrom cX0_copyFrom 3 none, Cond.methodLink RX0 15 yX0_put, Cond.instanceMethod yX0_put, Cond.selects RX0 yX0_put yX0_put, Cond.code yX0_put cX0_put 3 none, Cond.methodLink RX3 166 yX0_shortBy]
def wsX3_digest_r6 : List Cond := [Cond.methodLink RX3 96 yX0_passDays, Cond.instanceMethod yX0_passDays, Cond.selects RX0 yX0_passDays yX0_passDays, Cond.code yX0_passDays cX0_passDays 4 (some .int), Cond.methodLink RX0 23 yX0_add, Cond.instanceMethod yX0_add, Cond.selects RX0 yX0_add yX0_add, Cond.code yX0_add cX0_add 3 none, Cond.methodLink RX0 49 yX0_weather, Cond.instanceMethod yX0_weather, Cond.selects RX0 yX0_weather yX0_weather, Cond.code yX0_weather cX0_weather 3 none, Cond.methodLink RX0 72 yX0_wetAgain, Cond.instanceMethod yX0_wetAgain, Cond.selects RX0 yX0_wetAgain yX0_wetAgain, Cond.code yX0_wetAgain cX0_wetAgain 4 none, Cond.methodLink RX0 78 yX0_halfRoundedUp, Cond.static yX0_halfRoundedUp, Cond.code yX0_halfRoundedUp cX0_halfRoundedUp 1 (some .int), Cond.methodLink RX0 75 yX0_dryOut, Cond.instanceMethod yX0_dryOut, Cond.selects RX0 yX0_dryOut yX0_dryOut, Cond.code yX0_dryOut cX0_dryOut 5 none, Cond.methodLink RX0 65 Lib.Math.min.name]
def wsX3_digest_r7 : List Cond := [Cond.static Lib.Math.min.name, Cond.code Lib.Math.min.name Lib.Math.min.code 2 (some .int), Cond.methodLink RX0 52 yX0_burn, Cond.instanceMethod yX0_burn, Cond.selects RX0 yX0_burn yX0_burn, Cond.code yX0_burn cX0_burn 4 none, Cond.methodLink RX0 55 yX0_cutTurves, Cond.instanceMethod yX0_cutTurves, Cond.selects RX0 yX0_cutTurves yX0_cutTurves, Cond.code yX0_cutTurves cX0_cutTurves 5 none, Cond.methodLink RX0 58 yX0_rainOf, Cond.instanceMethod yX0_rainOf, Cond.selects RX0 yX0_rainOf yX0_rainOf, Cond.code yX0_rainOf cX0_rainOf 2 (some .int), Cond.methodLink RX0 44 yJ9_floorMod_7cf53, Cond.static yJ9_floorMod_7cf53, Cond.initialized RJ9, Cond.code yJ9_floorMod_7cf53 cJ9_floorMod_7cf53 3 (some .int), Cond.methodLink RX0 61 yX0_goCarts, Cond.instanceMethod yX0_goCarts, Cond.selects RX0 yX0_goCarts yX0_goCarts, Cond.code yX0_goCarts cX0_goCarts 7 (some .int), Cond.methodLink RX0 81 yX0_cartHome, Cond.instanceMethod yX0_cartHome]
def wsX3_digest_r8 : List Cond := [Cond.selects RX0 yX0_cartHome yX0_cartHome, Cond.code yX0_cartHome cX0_cartHome 7 (some .int), Cond.methodLink RX0 84 yX0_poorestWidow, Cond.instanceMethod yX0_poorestWidow, Cond.selects RX0 yX0_poorestWidow yX0_poorestWidow, Cond.code yX0_poorestWidow cX0_poorestWidow 3 (some .int), Cond.methodLink RX3 188 yX3_bestBank, Cond.instanceMethod yX3_bestBank, Cond.selects RX3 yX3_bestBank yX3_bestBank, Cond.code yX3_bestBank cX3_bestBank 7 (some .int), Cond.methodLink RX3 57 yX0_reasonAgainst, Cond.instanceMethod yX0_reasonAgainst, Cond.selects RX0 yX0_reasonAgainst yX0_reasonAgainst, Cond.code yX0_reasonAgainst cX0_reasonAgainst 4 (some .int), Cond.methodLink RX3 64 yX0_setToWork, Cond.instanceMethod yX0_setToWork, Cond.selects RX0 yX0_setToWork yX0_setToWork, Cond.code yX0_setToWork cX0_setToWork 4 none, Cond.methodLink RX3 86 yX0_at, Cond.methodLink RX3 191 yX3_bankOf, Cond.instanceMethod yX3_bankOf, Cond.selects RX3 yX3_bankOf yX3_bankOf, Cond.code yX3_bankOf cX3_bankOf 3 (some .int), Cond.methodLink RX3 141 yX0_ofBank]
def wsX3_digest_r9 : List Cond := [Cond.instanceMethod yX0_ofBank, Cond.selects RX0 yX0_ofBank yX0_ofBank, Cond.code yX0_ofBank cX0_ofBank 3 (some .int), Cond.methodLink RX3 194 yX3_cutter, Cond.instanceMethod yX3_cutter, Cond.selects RX3 yX3_cutter yX3_cutter, Cond.code yX3_cutter cX3_cutter 3 (some .int), Cond.methodLink RX3 148 yX0_ofCutter, Cond.instanceMethod yX0_ofCutter, Cond.selects RX0 yX0_ofCutter yX0_ofCutter, Cond.code yX0_ofCutter cX0_ofCutter 3 (some .int), Cond.methodLink RX3 197 yX3_rain, Cond.instanceMethod yX3_rain, Cond.selects RX3 yX3_rain yX3_rain, Cond.code yX3_rain cX3_rain 2 (some .int), Cond.methodLink RX3 151 yX0_rainOf, Cond.methodLink RX3 200 yX3_ifPassed, Cond.instanceMethod yX3_ifPassed, Cond.selects RX3 yX3_ifPassed yX3_ifPassed, Cond.code yX3_ifPassed cX3_ifPassed 4 (some .int), Cond.methodLink RX3 160 yX0_hearthsShort, Cond.methodLink RX3 163 yX0_sum, Cond.methodLink RX3 203 yX3_dryness, Cond.instanceMethod yX3_dryness]
def wsX3_digest_r10 : List Cond := [Cond.selects RX3 yX3_dryness yX3_dryness, Cond.code yX3_dryness cX3_dryness 2 (some .double), Cond.methodLink RX3 169 yX0_turvesOnBanks, Cond.methodLink RX3 207 yX3_bitsOf, Cond.static yX3_bitsOf, Cond.code yX3_bitsOf cX3_bitsOf 7 (some .long), Cond.constantLong RX3 215 (1023), Cond.constantDouble RX3 217 (4611686018427387904), Cond.constantDouble RX3 219 (4841369599423283200), Cond.methodLink RX3 106 yX2_length, Cond.instanceMethod yX2_length, Cond.selects RX2 yX2_length yX2_length, Cond.initialized RX2, Cond.code yX2_length cX2_length 1 (some .int), Cond.fieldLink RX2 15 "PeatHearths$Text" "length" "I", Cond.methodLink RX3 211 yX2_signAt, Cond.instanceMethod yX2_signAt, Cond.selects RX2 yX2_signAt yX2_signAt, Cond.code yX2_signAt cX2_signAt 2 (some .char), Cond.fieldLink RX2 9 "PeatHearths$Text" "signs" "[C"]
def wsX3_digest : List Cond := .code yX3_digest cX3_digest 6 (some .long) :: ((wsX3_digest_r1 ++ (wsX3_digest_r2 ++ (wsX3_digest_r3 ++ (wsX3_digest_r4 ++ (wsX3_digest_r5 ++ (wsX3_digest_r6 ++ (wsX3_digest_r7 ++ (wsX3_digest_r8 ++ (wsX3_digest_r9 ++ wsX3_digest_r10))))))))) ++ wsX30 ++ wsX10 ++ wsX00 ++ wsX20 ++ (vx_atS RX3 235 "java/lang/IllegalArgumentException" ["java/lang/RuntimeException", "java/lang/Exception"]).filter goodWord ++ (vx_atS RX3 228 "java/lang/IndexOutOfBoundsException" ["java/lang/RuntimeException", "java/lang/Exception"]).filter goodWord)
def wsX4_init : List Cond := .code yX4_init cX4_init 2 none :: ([.methodLink RX4 1 objectInit, .instanceMethod objectInit, .code objectInit ⟨#[0xb1]⟩ 1 none, .arrayClass .int, .fieldLink RX4 7 "PeatHearthsModel" "state" "[I", .fieldLink RX4 13 "PeatHearthsModel" "spare" "[I", .fieldLink RX4 16 "PeatHearthsModel" "saved" "[I", .fieldLink RX4 19 "PeatHearthsModel" "snapshot" "[I", .fieldLink RX4 22 "PeatHearthsModel" "buffer" "[I"] ++ wsX40)
def wsX4_thrown : List Cond := .code yX4_thrown cX4_thrown 1 (some .int) :: ([.fieldLink RX4 25 "PeatHearthsModel" "thrown" "I"] ++ wsX40)
def wsX4_fails : List Cond := .code yX4_fails cX4_fails 2 (some .int) :: ([.fieldLink RX4 25 "PeatHearthsModel" "thrown" "I"] ++ wsX40)
def wsX4_within : List Cond := .code yX4_within cX4_within 3 (some .boolean) :: ([])
def wsX4_isHearth : List Cond := .code yX4_isHearth cX4_isHearth 1 (some .boolean) :: ([.methodLink RX4 29 yX4_within, .static yX4_within, .initialized RX4, .code yX4_within cX4_within 3 (some .boolean)])
def wsX4_isBank : List Cond := .code yX4_isBank cX4_isBank 1 (some .boolean) :: ([.methodLink RX4 29 yX4_within, .static yX4_within, .initialized RX4, .code yX4_within cX4_within 3 (some .boolean)])
def wsX4_isCutter : List Cond := .code yX4_isCutter cX4_isCutter 1 (some .boolean) :: ([.methodLink RX4 29 yX4_within, .static yX4_within, .initialized RX4, .code yX4_within cX4_within 3 (some .boolean)])
def wsX4_less : List Cond := .code yX4_less cX4_less 2 (some .int) :: ([])
def wsX4_save : List Cond := .code yX4_save cX4_save 2 none :: ([.fieldLink RX4 33 "PeatHearthsModel" "savedMany" "I", .fieldLink RX4 16 "PeatHearthsModel" "saved" "[I", .fieldLink RX4 7 "PeatHearthsModel" "state" "[I"] ++ wsX40)
def wsX4_undo : List Cond := .code yX4_undo cX4_undo 2 (some .int) :: ([.fieldLink RX4 25 "PeatHearthsModel" "thrown" "I", .fieldLink RX4 33 "PeatHearthsModel" "savedMany" "I", .fieldLink RX4 7 "PeatHearthsModel" "state" "[I", .fieldLink RX4 16 "PeatHearthsModel" "saved" "[I", .methodLink RX4 36 yX4_fails, .instanceMethod yX4_fails, .selects RX4 yX4_fails yX4_fails, .initialized RX4, .code yX4_fails cX4_fails 2 (some .int)] ++ wsX40)
def wsX4_keep : List Cond := .code yX4_keep cX4_keep 2 (some .int) :: ([.fieldLink RX4 25 "PeatHearthsModel" "thrown" "I", .fieldLink RX4 19 "PeatHearthsModel" "snapshot" "[I", .fieldLink RX4 7 "PeatHearthsModel" "state" "[I", .fieldLink RX4 40 "PeatHearthsModel" "hasSnapshot" "Z"] ++ wsX40)
def wsX4_restore : List Cond := .code yX4_restore cX4_restore 2 (some .int) :: ([.fieldLink RX4 25 "PeatHearthsModel" "thrown" "I", .fieldLink RX4 40 "PeatHearthsModel" "hasSnapshot" "Z", .fieldLink RX4 7 "PeatHearthsModel" "state" "[I", .fieldLink RX4 19 "PeatHearthsModel" "snapshot" "[I", .methodLink RX4 36 yX4_fails, .instanceMethod yX4_fails, .selects RX4 yX4_fails yX4_fails, .initialized RX4, .code yX4_fails cX4_fails 2 (some .int), .methodLink RX4 44 yX4_save, .instanceMethod yX4_save, .selects RX4 yX4_save yX4_save, .code yX4_save cX4_save 2 none, .fieldLink RX4 33 "PeatHearthsModel" "savedMany" "I", .fieldLink RX4 16 "PeatHearthsModel" "saved" "[I"] ++ wsX40)
def wsX4_putAside : List Cond := .code yX4_putAside cX4_putAside 2 none :: ([.fieldLink RX4 13 "PeatHearthsModel" "spare" "[I", .fieldLink RX4 7 "PeatHearthsModel" "state" "[I"] ++ wsX40)
def wsX4_takeBack : List Cond := .code yX4_takeBack cX4_takeBack 2 none :: ([.fieldLink RX4 7 "PeatHearthsModel" "state" "[I", .fieldLink RX4 13 "PeatHearthsModel" "spare" "[I"] ++ wsX40)
def wsX4_rainOf : List Cond := .code yX4_rainOf cX4_rainOf 4 (some .int) :: ([.constantLong RX4 47 (7), .fieldLink RX4 7 "PeatHearthsModel" "state" "[I", .constantLong RX4 49 (10)] ++ wsX40)
def wsX4_cutAll : List Cond := .code yX4_cutAll cX4_cutAll 5 none :: ([.fieldLink RX4 7 "PeatHearthsModel" "state" "[I", .methodLink RX4 51 yX4_less, .static yX4_less, .initialized RX4, .code yX4_less cX4_less 2 (some .int)] ++ wsX40)
def wsX4_soak : List Cond := .code yX4_soak cX4_soak 4 none :: ([.fieldLink RX4 7 "PeatHearthsModel" "state" "[I"] ++ wsX40)
def wsX4_dry : List Cond := .code yX4_dry cX4_dry 4 none :: ([.fieldLink RX4 7 "PeatHearthsModel" "state" "[I", .methodLink RX4 51 yX4_less, .static yX4_less, .initialized RX4, .code yX4_less cX4_less 2 (some .int)] ++ wsX40)
def wsX4_poorest : List Cond := .code yX4_poorest cX4_poorest 4 (some .int) :: ([.fieldLink RX4 7 "PeatHearthsModel" "state" "[I"] ++ wsX40)
def wsX4_bringHome : List Cond := .code yX4_bringHome cX4_bringHome 6 none :: ([.fieldLink RX4 7 "PeatHearthsModel" "state" "[I", .methodLink RX4 55 yX4_poorest, .instanceMethod yX4_poorest, .selects RX4 yX4_poorest yX4_poorest, .initialized RX4, .code yX4_poorest cX4_poorest 4 (some .int)] ++ wsX40)
def wsX4_cart : List Cond := .code yX4_cart cX4_cart 6 (some .int) :: ([.fieldLink RX4 7 "PeatHearthsModel" "state" "[I", .methodLink RX4 51 yX4_less, .static yX4_less, .initialized RX4, .code yX4_less cX4_less 2 (some .int), .methodLink RX4 59 yX4_bringHome, .instanceMethod yX4_bringHome, .selects RX4 yX4_bringHome yX4_bringHome, .code yX4_bringHome cX4_bringHome 6 none, .methodLink RX4 55 yX4_poorest, .instanceMethod yX4_poorest, .selects RX4 yX4_poorest yX4_poorest, .code yX4_poorest cX4_poorest 4 (some .int)] ++ wsX40)
def wsX4_burnAll : List Cond := .code yX4_burnAll cX4_burnAll 3 none :: ([.fieldLink RX4 7 "PeatHearthsModel" "state" "[I", .methodLink RX4 51 yX4_less, .static yX4_less, .initialized RX4, .code yX4_less cX4_less 2 (some .int)] ++ wsX40)
def wsX4_passOne_r1 : List Cond := [Cond.fieldLink RX4 7 "PeatHearthsModel" "state" "[I", Cond.methodLink RX4 63 yX4_rainOf, Cond.instanceMethod yX4_rainOf, Cond.selects RX4 yX4_rainOf yX4_rainOf, Cond.initialized RX4, Cond.code yX4_rainOf cX4_rainOf 4 (some .int), Cond.constantLong RX4 47 (7), Cond.constantLong RX4 49 (10), Cond.methodLink RX4 66 yX4_cutAll, Cond.instanceMethod yX4_cutAll, Cond.selects RX4 yX4_cutAll yX4_cutAll, Cond.code yX4_cutAll cX4_cutAll 5 none, Cond.methodLink RX4 51 yX4_less, Cond.static yX4_less, Cond.code yX4_less cX4_less 2 (some .int), Cond.methodLink RX4 69 yX4_soak, Cond.instanceMethod yX4_soak, Cond.selects RX4 yX4_soak yX4_soak, Cond.code yX4_soak cX4_soak 4 none, Cond.methodLink RX4 73 yX4_dry, Cond.instanceMethod yX4_dry, Cond.selects RX4 yX4_dry yX4_dry, Cond.code yX4_dry cX4_dry 4 none, Cond.methodLink RX4 76 yX4_burnAll]
def wsX4_passOne_r2 : List Cond := [Cond.instanceMethod yX4_burnAll, Cond.selects RX4 yX4_burnAll yX4_burnAll, Cond.code yX4_burnAll cX4_burnAll 3 none, Cond.methodLink RX4 79 yX4_cart, Cond.instanceMethod yX4_cart, Cond.selects RX4 yX4_cart yX4_cart, Cond.code yX4_cart cX4_cart 6 (some .int), Cond.methodLink RX4 59 yX4_bringHome, Cond.instanceMethod yX4_bringHome, Cond.selects RX4 yX4_bringHome yX4_bringHome, Cond.code yX4_bringHome cX4_bringHome 6 none, Cond.methodLink RX4 55 yX4_poorest, Cond.instanceMethod yX4_poorest, Cond.selects RX4 yX4_poorest yX4_poorest, Cond.code yX4_poorest cX4_poorest 4 (some .int)]
def wsX4_passOne : List Cond := .code yX4_passOne cX4_passOne 5 (some .int) :: ((wsX4_passOne_r1 ++ wsX4_passOne_r2) ++ wsX40)
def wsX4_passes_r1 : List Cond := [Cond.methodLink RX4 82 yX4_passOne, Cond.instanceMethod yX4_passOne, Cond.selects RX4 yX4_passOne yX4_passOne, Cond.initialized RX4, Cond.code yX4_passOne cX4_passOne 5 (some .int), Cond.fieldLink RX4 7 "PeatHearthsModel" "state" "[I", Cond.methodLink RX4 63 yX4_rainOf, Cond.instanceMethod yX4_rainOf, Cond.selects RX4 yX4_rainOf yX4_rainOf, Cond.code yX4_rainOf cX4_rainOf 4 (some .int), Cond.constantLong RX4 47 (7), Cond.constantLong RX4 49 (10), Cond.methodLink RX4 66 yX4_cutAll, Cond.instanceMethod yX4_cutAll, Cond.selects RX4 yX4_cutAll yX4_cutAll, Cond.code yX4_cutAll cX4_cutAll 5 none, Cond.methodLink RX4 51 yX4_less, Cond.static yX4_less, Cond.code yX4_less cX4_less 2 (some .int), Cond.methodLink RX4 69 yX4_soak, Cond.instanceMethod yX4_soak, Cond.selects RX4 yX4_soak yX4_soak, Cond.code yX4_soak cX4_soak 4 none, Cond.methodLink RX4 73 yX4_dry]
def wsX4_passes_r2 : List Cond := [Cond.instanceMethod yX4_dry, Cond.selects RX4 yX4_dry yX4_dry, Cond.code yX4_dry cX4_dry 4 none, Cond.methodLink RX4 76 yX4_burnAll, Cond.instanceMethod yX4_burnAll, Cond.selects RX4 yX4_burnAll yX4_burnAll, Cond.code yX4_burnAll cX4_burnAll 3 none, Cond.methodLink RX4 79 yX4_cart, Cond.instanceMethod yX4_cart, Cond.selects RX4 yX4_cart yX4_cart, Cond.code yX4_cart cX4_cart 6 (some .int), Cond.methodLink RX4 59 yX4_bringHome, Cond.instanceMethod yX4_bringHome, Cond.selects RX4 yX4_bringHome yX4_bringHome, Cond.code yX4_bringHome cX4_bringHome 6 none, Cond.methodLink RX4 55 yX4_poorest, Cond.instanceMethod yX4_poorest, Cond.selects RX4 yX4_poorest yX4_poorest, Cond.code yX4_poorest cX4_poorest 4 (some .int)]
def wsX4_passes : List Cond := .code yX4_passes cX4_passes 4 (some .int) :: ((wsX4_passes_r1 ++ wsX4_passes_r2) ++ wsX40)
def wsX4_commons : List Cond := .code yX4_commons cX4_commons 4 (some .int) :: ([.fieldLink RX4 7 "PeatHearthsModel" "state" "[I"] ++ wsX40)
def wsX4_sharesOf : List Cond := .code yX4_sharesOf cX4_sharesOf 3 (some .int) :: ([.fieldLink RX4 7 "PeatHearthsModel" "state" "[I", .methodLink RX4 85 yX4_commons, .instanceMethod yX4_commons, .selects RX4 yX4_commons yX4_commons, .initialized RX4, .code yX4_commons cX4_commons 4 (some .int)] ++ wsX40)
def wsX4_workers : List Cond := .code yX4_workers cX4_workers 5 (some .int) :: ([.fieldLink RX4 7 "PeatHearthsModel" "state" "[I"] ++ wsX40)
def wsX4_workersOn : List Cond := .code yX4_workersOn cX4_workersOn 4 (some .int) :: ([.methodLink RX4 88 yX4_workers, .instanceMethod yX4_workers, .selects RX4 yX4_workers yX4_workers, .initialized RX4, .code yX4_workers cX4_workers 5 (some .int), .fieldLink RX4 7 "PeatHearthsModel" "state" "[I"] ++ wsX40)
def wsX4_allWorkers : List Cond := .code yX4_allWorkers cX4_allWorkers 3 (some .int) :: ([.methodLink RX4 91 yX4_workersOn, .instanceMethod yX4_workersOn, .selects RX4 yX4_workersOn yX4_workersOn, .initialized RX4, .code yX4_workersOn cX4_workersOn 4 (some .int), .methodLink RX4 88 yX4_workers, .instanceMethod yX4_workers, .selects RX4 yX4_workers yX4_workers, .code yX4_workers cX4_workers 5 (some .int), .fieldLink RX4 7 "PeatHearthsModel" "state" "[I"] ++ wsX40)
def wsX4_turvesOn : List Cond := .code yX4_turvesOn cX4_turvesOn 4 (some .int) :: ([.fieldLink RX4 7 "PeatHearthsModel" "state" "[I"] ++ wsX40)
def wsX4_ofHearth : List Cond := .code yX4_ofHearth cX4_ofHearth 4 (some .int) :: ([.methodLink RX4 94 yX4_turvesOn, .instanceMethod yX4_turvesOn, .selects RX4 yX4_turvesOn yX4_turvesOn, .initialized RX4, .code yX4_turvesOn cX4_turvesOn 4 (some .int), .fieldLink RX4 7 "PeatHearthsModel" "state" "[I"] ++ wsX40)
def wsX4_lieOn : List Cond := .code yX4_lieOn cX4_lieOn 4 (some .int) :: ([.methodLink RX4 94 yX4_turvesOn, .instanceMethod yX4_turvesOn, .selects RX4 yX4_turvesOn yX4_turvesOn, .initialized RX4, .code yX4_turvesOn cX4_turvesOn 4 (some .int), .fieldLink RX4 7 "PeatHearthsModel" "state" "[I"] ++ wsX40)
def wsX4_atLeastNone : List Cond := .code yX4_atLeastNone cX4_atLeastNone 1 (some .int) :: ([])
def wsX4_shortNow : List Cond := .code yX4_shortNow cX4_shortNow 2 (some .int) :: ([.fieldLink RX4 7 "PeatHearthsModel" "state" "[I", .methodLink RX4 97 yX4_atLeastNone, .static yX4_atLeastNone, .initialized RX4, .code yX4_atLeastNone cX4_atLeastNone 1 (some .int)] ++ wsX40)
def wsX4_shortThen : List Cond := .code yX4_shortThen cX4_shortThen 2 (some .int) :: ([.fieldLink RX4 7 "PeatHearthsModel" "state" "[I", .methodLink RX4 100 yX4_ofHearth, .instanceMethod yX4_ofHearth, .selects RX4 yX4_ofHearth yX4_ofHearth, .initialized RX4, .code yX4_ofHearth cX4_ofHearth 4 (some .int), .methodLink RX4 94 yX4_turvesOn, .instanceMethod yX4_turvesOn, .selects RX4 yX4_turvesOn yX4_turvesOn, .code yX4_turvesOn cX4_turvesOn 4 (some .int), .methodLink RX4 97 yX4_atLeastNone, .static yX4_atLeastNone, .code yX4_atLeastNone cX4_atLeastNone 1 (some .int)] ++ wsX40)
def wsX4_shortByBook : List Cond := .code yX4_shortByBook cX4_shortByBook 3 (some .int) :: ([.fieldLink RX4 7 "PeatHearthsModel" "state" "[I", .methodLink RX4 97 yX4_atLeastNone, .static yX4_atLeastNone, .initialized RX4, .code yX4_atLeastNone cX4_atLeastNone 1 (some .int)] ++ wsX40)
def wsX4_reason : List Cond := .code yX4_reason cX4_reason 4 (some .int) :: ([.fieldLink RX4 7 "PeatHearthsModel" "state" "[I", .methodLink RX4 103 yX4_sharesOf, .instanceMethod yX4_sharesOf, .selects RX4 yX4_sharesOf yX4_sharesOf, .initialized RX4, .code yX4_sharesOf cX4_sharesOf 3 (some .int), .methodLink RX4 85 yX4_commons, .instanceMethod yX4_commons, .selects RX4 yX4_commons yX4_commons, .code yX4_commons cX4_commons 4 (some .int), .methodLink RX4 88 yX4_workers, .instanceMethod yX4_workers, .selects RX4 yX4_workers yX4_workers, .code yX4_workers cX4_workers 5 (some .int)] ++ wsX40)
def wsX4_setToWork : List Cond := .code yX4_setToWork cX4_setToWork 4 none :: ([.fieldLink RX4 7 "PeatHearthsModel" "state" "[I"] ++ wsX40)
def wsX4_turnSnow : List Cond := .code yX4_turnSnow cX4_turnSnow 2 (some .int) :: ([.fieldLink RX4 7 "PeatHearthsModel" "state" "[I", .methodLink RX4 106 yX4_setToWork, .instanceMethod yX4_setToWork, .selects RX4 yX4_setToWork yX4_setToWork, .initialized RX4, .code yX4_setToWork cX4_setToWork 4 none] ++ wsX40)
def wsX4_hearth : List Cond := .code yX4_hearth cX4_hearth 5 (some .int) :: ([.fieldLink RX4 25 "PeatHearthsModel" "thrown" "I", .fieldLink RX4 7 "PeatHearthsModel" "state" "[I", .methodLink RX4 109 yX4_isHearth, .static yX4_isHearth, .initialized RX4, .code yX4_isHearth cX4_isHearth 1 (some .boolean), .methodLink RX4 29 yX4_within, .static yX4_within, .code yX4_within cX4_within 3 (some .boolean), .methodLink RX4 36 yX4_fails, .instanceMethod yX4_fails, .selects RX4 yX4_fails yX4_fails, .code yX4_fails cX4_fails 2 (some .int), .methodLink RX4 44 yX4_save, .instanceMethod yX4_save, .selects RX4 yX4_save yX4_save, .code yX4_save cX4_save 2 none, .fieldLink RX4 33 "PeatHearthsModel" "savedMany" "I", .fieldLink RX4 16 "PeatHearthsModel" "saved" "[I"] ++ wsX40)
def wsX4_track : List Cond := .code yX4_track cX4_track 4 (some .int) :: ([.fieldLink RX4 25 "PeatHearthsModel" "thrown" "I", .fieldLink RX4 7 "PeatHearthsModel" "state" "[I", .methodLink RX4 113 yX4_isBank, .static yX4_isBank, .initialized RX4, .code yX4_isBank cX4_isBank 1 (some .boolean), .methodLink RX4 29 yX4_within, .static yX4_within, .code yX4_within cX4_within 3 (some .boolean), .methodLink RX4 36 yX4_fails, .instanceMethod yX4_fails, .selects RX4 yX4_fails yX4_fails, .code yX4_fails cX4_fails 2 (some .int), .methodLink RX4 44 yX4_save, .instanceMethod yX4_save, .selects RX4 yX4_save yX4_save, .code yX4_save cX4_save 2 none, .fieldLink RX4 33 "PeatHearthsModel" "savedMany" "I", .fieldLink RX4 16 "PeatHearthsModel" "saved" "[I"] ++ wsX40)
def wsX4_strength : List Cond := .code yX4_strength cX4_strength 4 (some .int) :: ([.fieldLink RX4 25 "PeatHearthsModel" "thrown" "I", .fieldLink RX4 7 "PeatHearthsModel" "state" "[I", .methodLink RX4 116 yX4_isCutter, .static yX4_isCutter, .initialized RX4, .code yX4_isCutter cX4_isCutter 1 (some .boolean), .methodLink RX4 29 yX4_within, .static yX4_within, .code yX4_within cX4_within 3 (some .boolean), .methodLink RX4 36 yX4_fails, .instanceMethod yX4_fails, .selects RX4 yX4_fails yX4_fails, .code yX4_fails cX4_fails 2 (some .int), .methodLink RX4 44 yX4_save, .instanceMethod yX4_save, .selects RX4 yX4_save yX4_save, .code yX4_save cX4_save 2 none, .fieldLink RX4 33 "PeatHearthsModel" "savedMany" "I", .fieldLink RX4 16 "PeatHearthsModel" "saved" "[I"] ++ wsX40)
def wsX4_work_r1 : List Cond := [Cond.fieldLink RX4 25 "PeatHearthsModel" "thrown" "I", Cond.methodLink RX4 116 yX4_isCutter, Cond.static yX4_isCutter, Cond.initialized RX4, Cond.code yX4_isCutter cX4_isCutter 1 (some .boolean), Cond.methodLink RX4 29 yX4_within, Cond.static yX4_within, Cond.code yX4_within cX4_within 3 (some .boolean), Cond.methodLink RX4 109 yX4_isHearth, Cond.static yX4_isHearth, Cond.code yX4_isHearth cX4_isHearth 1 (some .boolean), Cond.methodLink RX4 113 yX4_isBank, Cond.static yX4_isBank, Cond.code yX4_isBank cX4_isBank 1 (some .boolean), Cond.methodLink RX4 36 yX4_fails, Cond.instanceMethod yX4_fails, Cond.selects RX4 yX4_fails yX4_fails, Cond.code yX4_fails cX4_fails 2 (some .int), Cond.methodLink RX4 119 yX4_reason, Cond.instanceMethod yX4_reason, Cond.selects RX4 yX4_reason yX4_reason, Cond.code yX4_reason cX4_reason 4 (some .int), Cond.fieldLink RX4 7 "PeatHearthsModel" "state" "[I", Cond.methodLink RX4 103 yX4_sharesOf]
def wsX4_work_r2 : List Cond := [Cond.instanceMethod yX4_sharesOf, Cond.selects RX4 yX4_sharesOf yX4_sharesOf, Cond.code yX4_sharesOf cX4_sharesOf 3 (some .int), Cond.methodLink RX4 85 yX4_commons, Cond.instanceMethod yX4_commons, Cond.selects RX4 yX4_commons yX4_commons, Cond.code yX4_commons cX4_commons 4 (some .int), Cond.methodLink RX4 88 yX4_workers, Cond.instanceMethod yX4_workers, Cond.selects RX4 yX4_workers yX4_workers, Cond.code yX4_workers cX4_workers 5 (some .int), Cond.methodLink RX4 44 yX4_save, Cond.instanceMethod yX4_save, Cond.selects RX4 yX4_save yX4_save, Cond.code yX4_save cX4_save 2 none, Cond.fieldLink RX4 33 "PeatHearthsModel" "savedMany" "I", Cond.fieldLink RX4 16 "PeatHearthsModel" "saved" "[I", Cond.methodLink RX4 106 yX4_setToWork, Cond.instanceMethod yX4_setToWork, Cond.selects RX4 yX4_setToWork yX4_setToWork, Cond.code yX4_setToWork cX4_setToWork 4 none]
def wsX4_work : List Cond := .code yX4_work cX4_work 4 (some .int) :: ((wsX4_work_r1 ++ wsX4_work_r2) ++ wsX40)
def wsX4_rest_r1 : List Cond := [Cond.fieldLink RX4 25 "PeatHearthsModel" "thrown" "I", Cond.methodLink RX4 116 yX4_isCutter, Cond.static yX4_isCutter, Cond.initialized RX4, Cond.code yX4_isCutter cX4_isCutter 1 (some .boolean), Cond.methodLink RX4 29 yX4_within, Cond.static yX4_within, Cond.code yX4_within cX4_within 3 (some .boolean), Cond.methodLink RX4 36 yX4_fails, Cond.instanceMethod yX4_fails, Cond.selects RX4 yX4_fails yX4_fails, Cond.code yX4_fails cX4_fails 2 (some .int), Cond.methodLink RX4 44 yX4_save, Cond.instanceMethod yX4_save, Cond.selects RX4 yX4_save yX4_save, Cond.code yX4_save cX4_save 2 none, Cond.fieldLink RX4 33 "PeatHearthsModel" "savedMany" "I", Cond.fieldLink RX4 16 "PeatHearthsModel" "saved" "[I", Cond.fieldLink RX4 7 "PeatHearthsModel" "state" "[I", Cond.methodLink RX4 106 yX4_setToWork, Cond.instanceMethod yX4_setToWork, Cond.selects RX4 yX4_setToWork yX4_setToWork, Cond.code yX4_setToWork cX4_setToWork 4 none, Cond.methodLink RX4 122 yX4_allWorkers]
def wsX4_rest_r2 : List Cond := [Cond.instanceMethod yX4_allWorkers, Cond.selects RX4 yX4_allWorkers yX4_allWorkers, Cond.code yX4_allWorkers cX4_allWorkers 3 (some .int), Cond.methodLink RX4 91 yX4_workersOn, Cond.instanceMethod yX4_workersOn, Cond.selects RX4 yX4_workersOn yX4_workersOn, Cond.code yX4_workersOn cX4_workersOn 4 (some .int), Cond.methodLink RX4 88 yX4_workers, Cond.instanceMethod yX4_workers, Cond.selects RX4 yX4_workers yX4_workers, Cond.code yX4_workers cX4_workers 5 (some .int)]
def wsX4_rest : List Cond := .code yX4_rest cX4_rest 2 (some .int) :: ((wsX4_rest_r1 ++ wsX4_rest_r2) ++ wsX40)
def wsX4_give_r1 : List Cond := [Cond.fieldLink RX4 25 "PeatHearthsModel" "thrown" "I", Cond.fieldLink RX4 7 "PeatHearthsModel" "state" "[I", Cond.methodLink RX4 29 yX4_within, Cond.static yX4_within, Cond.initialized RX4, Cond.code yX4_within cX4_within 3 (some .boolean), Cond.methodLink RX4 113 yX4_isBank, Cond.static yX4_isBank, Cond.code yX4_isBank cX4_isBank 1 (some .boolean), Cond.methodLink RX4 36 yX4_fails, Cond.instanceMethod yX4_fails, Cond.selects RX4 yX4_fails yX4_fails, Cond.code yX4_fails cX4_fails 2 (some .int), Cond.methodLink RX4 103 yX4_sharesOf, Cond.instanceMethod yX4_sharesOf, Cond.selects RX4 yX4_sharesOf yX4_sharesOf, Cond.code yX4_sharesOf cX4_sharesOf 3 (some .int), Cond.methodLink RX4 85 yX4_commons, Cond.instanceMethod yX4_commons, Cond.selects RX4 yX4_commons yX4_commons, Cond.code yX4_commons cX4_commons 4 (some .int), Cond.methodLink RX4 44 yX4_save, Cond.instanceMethod yX4_save, Cond.selects RX4 yX4_save yX4_save]
def wsX4_give_r2 : List Cond := [Cond.code yX4_save cX4_save 2 none, Cond.fieldLink RX4 33 "PeatHearthsModel" "savedMany" "I", Cond.fieldLink RX4 16 "PeatHearthsModel" "saved" "[I"]
def wsX4_give : List Cond := .code yX4_give cX4_give 5 (some .int) :: ((wsX4_give_r1 ++ wsX4_give_r2) ++ wsX40)
def wsX4_snow : List Cond := .code yX4_snow cX4_snow 1 (some .int) :: ([.fieldLink RX4 25 "PeatHearthsModel" "thrown" "I", .methodLink RX4 44 yX4_save, .instanceMethod yX4_save, .selects RX4 yX4_save yX4_save, .initialized RX4, .code yX4_save cX4_save 2 none, .fieldLink RX4 33 "PeatHearthsModel" "savedMany" "I", .fieldLink RX4 16 "PeatHearthsModel" "saved" "[I", .fieldLink RX4 7 "PeatHearthsModel" "state" "[I", .methodLink RX4 125 yX4_turnSnow, .instanceMethod yX4_turnSnow, .selects RX4 yX4_turnSnow yX4_turnSnow, .code yX4_turnSnow cX4_turnSnow 2 (some .int), .methodLink RX4 106 yX4_setToWork, .instanceMethod yX4_setToWork, .selects RX4 yX4_setToWork yX4_setToWork, .code yX4_setToWork cX4_setToWork 4 none] ++ wsX40)
def wsX4_pass_r1 : List Cond := [Cond.fieldLink RX4 25 "PeatHearthsModel" "thrown" "I", Cond.methodLink RX4 29 yX4_within, Cond.static yX4_within, Cond.initialized RX4, Cond.code yX4_within cX4_within 3 (some .boolean), Cond.methodLink RX4 36 yX4_fails, Cond.instanceMethod yX4_fails, Cond.selects RX4 yX4_fails yX4_fails, Cond.code yX4_fails cX4_fails 2 (some .int), Cond.methodLink RX4 44 yX4_save, Cond.instanceMethod yX4_save, Cond.selects RX4 yX4_save yX4_save, Cond.code yX4_save cX4_save 2 none, Cond.fieldLink RX4 33 "PeatHearthsModel" "savedMany" "I", Cond.fieldLink RX4 16 "PeatHearthsModel" "saved" "[I", Cond.fieldLink RX4 7 "PeatHearthsModel" "state" "[I", Cond.methodLink RX4 128 yX4_passes, Cond.instanceMethod yX4_passes, Cond.selects RX4 yX4_passes yX4_passes, Cond.code yX4_passes cX4_passes 4 (some .int), Cond.methodLink RX4 82 yX4_passOne, Cond.instanceMethod yX4_passOne, Cond.selects RX4 yX4_passOne yX4_passOne, Cond.code yX4_passOne cX4_passOne 5 (some .int)]
def wsX4_pass_r2 : List Cond := [Cond.methodLink RX4 63 yX4_rainOf, Cond.instanceMethod yX4_rainOf, Cond.selects RX4 yX4_rainOf yX4_rainOf, Cond.code yX4_rainOf cX4_rainOf 4 (some .int), Cond.constantLong RX4 47 (7), Cond.constantLong RX4 49 (10), Cond.methodLink RX4 66 yX4_cutAll, Cond.instanceMethod yX4_cutAll, Cond.selects RX4 yX4_cutAll yX4_cutAll, Cond.code yX4_cutAll cX4_cutAll 5 none, Cond.methodLink RX4 51 yX4_less, Cond.static yX4_less, Cond.code yX4_less cX4_less 2 (some .int), Cond.methodLink RX4 69 yX4_soak, Cond.instanceMethod yX4_soak, Cond.selects RX4 yX4_soak yX4_soak, Cond.code yX4_soak cX4_soak 4 none, Cond.methodLink RX4 73 yX4_dry, Cond.instanceMethod yX4_dry, Cond.selects RX4 yX4_dry yX4_dry, Cond.code yX4_dry cX4_dry 4 none, Cond.methodLink RX4 76 yX4_burnAll, Cond.instanceMethod yX4_burnAll, Cond.selects RX4 yX4_burnAll yX4_burnAll]
def wsX4_pass_r3 : List Cond := [Cond.code yX4_burnAll cX4_burnAll 3 none, Cond.methodLink RX4 79 yX4_cart, Cond.instanceMethod yX4_cart, Cond.selects RX4 yX4_cart yX4_cart, Cond.code yX4_cart cX4_cart 6 (some .int), Cond.methodLink RX4 59 yX4_bringHome, Cond.instanceMethod yX4_bringHome, Cond.selects RX4 yX4_bringHome yX4_bringHome, Cond.code yX4_bringHome cX4_bringHome 6 none, Cond.methodLink RX4 55 yX4_poorest, Cond.instanceMethod yX4_poorest, Cond.selects RX4 yX4_poorest yX4_poorest, Cond.code yX4_poorest cX4_poorest 4 (some .int)]
def wsX4_pass : List Cond := .code yX4_pass cX4_pass 2 (some .int) :: ((wsX4_pass_r1 ++ (wsX4_pass_r2 ++ wsX4_pass_r3)) ++ wsX40)
def wsX4_leastOf : List Cond := .code yX4_leastOf cX4_leastOf 1 (some .int) :: ([])
def wsX4_mostOf : List Cond := .code yX4_mostOf cX4_mostOf 1 (some .int) :: ([])
def wsX4_set : List Cond := .code yX4_set cX4_set 4 (some .int) :: ([.fieldLink RX4 25 "PeatHearthsModel" "thrown" "I", .fieldLink RX4 7 "PeatHearthsModel" "state" "[I", .methodLink RX4 29 yX4_within, .static yX4_within, .initialized RX4, .code yX4_within cX4_within 3 (some .boolean), .methodLink RX4 36 yX4_fails, .instanceMethod yX4_fails, .selects RX4 yX4_fails yX4_fails, .code yX4_fails cX4_fails 2 (some .int), .methodLink RX4 131 yX4_leastOf, .static yX4_leastOf, .code yX4_leastOf cX4_leastOf 1 (some .int), .methodLink RX4 134 yX4_mostOf, .static yX4_mostOf, .code yX4_mostOf cX4_mostOf 1 (some .int), .methodLink RX4 44 yX4_save, .instanceMethod yX4_save, .selects RX4 yX4_save yX4_save, .code yX4_save cX4_save 2 none, .fieldLink RX4 33 "PeatHearthsModel" "savedMany" "I", .fieldLink RX4 16 "PeatHearthsModel" "saved" "[I"] ++ wsX40)
def wsX4_append : List Cond := .code yX4_append cX4_append 2 (some .int) :: ([.fieldLink RX4 25 "PeatHearthsModel" "thrown" "I", .fieldLink RX4 137 "PeatHearthsModel" "length" "I", .fieldLink RX4 22 "PeatHearthsModel" "buffer" "[I", .methodLink RX4 29 yX4_within, .static yX4_within, .initialized RX4, .code yX4_within cX4_within 3 (some .boolean), .methodLink RX4 36 yX4_fails, .instanceMethod yX4_fails, .selects RX4 yX4_fails yX4_fails, .code yX4_fails cX4_fails 2 (some .int)] ++ wsX40)
def wsX4_clearBuffer : List Cond := .code yX4_clearBuffer cX4_clearBuffer 2 (some .int) :: ([.fieldLink RX4 25 "PeatHearthsModel" "thrown" "I", .fieldLink RX4 137 "PeatHearthsModel" "length" "I"] ++ wsX40)
def wsX4_next : List Cond := .code yX4_next cX4_next 1 (some .int) :: ([.fieldLink RX4 140 "PeatHearthsModel" "at" "I", .fieldLink RX4 137 "PeatHearthsModel" "length" "I", .fieldLink RX4 22 "PeatHearthsModel" "buffer" "[I"] ++ wsX40)
def wsX4_takes : List Cond := .code yX4_takes cX4_takes 3 (some .boolean) :: ([.fieldLink RX4 140 "PeatHearthsModel" "at" "I", .methodLink RX4 143 yX4_next, .instanceMethod yX4_next, .selects RX4 yX4_next yX4_next, .initialized RX4, .code yX4_next cX4_next 1 (some .int), .fieldLink RX4 137 "PeatHearthsModel" "length" "I", .fieldLink RX4 22 "PeatHearthsModel" "buffer" "[I"] ++ wsX40)
def wsX4_takeDigit : List Cond := .code yX4_takeDigit cX4_takeDigit 4 (some .int) :: ([.fieldLink RX4 140 "PeatHearthsModel" "at" "I", .methodLink RX4 143 yX4_next, .instanceMethod yX4_next, .selects RX4 yX4_next yX4_next, .initialized RX4, .code yX4_next cX4_next 1 (some .int), .fieldLink RX4 137 "PeatHearthsModel" "length" "I", .fieldLink RX4 22 "PeatHearthsModel" "buffer" "[I", .methodLink RX4 29 yX4_within, .static yX4_within, .code yX4_within cX4_within 3 (some .boolean)] ++ wsX40)
def wsX4_readsWork : List Cond := .code yX4_readsWork cX4_readsWork 1 (some .boolean) :: ([.fieldLink RX4 149 "PeatHearthsModel" "first" "I", .fieldLink RX4 155 "PeatHearthsModel" "second" "I", .fieldLink RX4 158 "PeatHearthsModel" "third" "I", .methodLink RX4 146 yX4_takeDigit, .instanceMethod yX4_takeDigit, .selects RX4 yX4_takeDigit yX4_takeDigit, .initialized RX4, .code yX4_takeDigit cX4_takeDigit 4 (some .int), .fieldLink RX4 140 "PeatHearthsModel" "at" "I", .methodLink RX4 143 yX4_next, .instanceMethod yX4_next, .selects RX4 yX4_next yX4_next, .code yX4_next cX4_next 1 (some .int), .fieldLink RX4 137 "PeatHearthsModel" "length" "I", .fieldLink RX4 22 "PeatHearthsModel" "buffer" "[I", .methodLink RX4 29 yX4_within, .static yX4_within, .code yX4_within cX4_within 3 (some .boolean), .methodLink RX4 152 yX4_takes, .instanceMethod yX4_takes, .selects RX4 yX4_takes yX4_takes, .code yX4_takes cX4_takes 3 (some .boolean)] ++ wsX40)
def wsX4_readsDays : List Cond := .code yX4_readsDays cX4_readsDays 2 (some .boolean) :: ([.fieldLink RX4 149 "PeatHearthsModel" "first" "I", .methodLink RX4 143 yX4_next, .instanceMethod yX4_next, .selects RX4 yX4_next yX4_next, .initialized RX4, .code yX4_next cX4_next 1 (some .int), .fieldLink RX4 140 "PeatHearthsModel" "at" "I", .fieldLink RX4 137 "PeatHearthsModel" "length" "I", .fieldLink RX4 22 "PeatHearthsModel" "buffer" "[I", .methodLink RX4 29 yX4_within, .static yX4_within, .code yX4_within cX4_within 3 (some .boolean), .methodLink RX4 146 yX4_takeDigit, .instanceMethod yX4_takeDigit, .selects RX4 yX4_takeDigit yX4_takeDigit, .code yX4_takeDigit cX4_takeDigit 4 (some .int)] ++ wsX40)
def wsX4_readsPart_r1 : List Cond := [Cond.fieldLink RX4 161 "PeatHearthsModel" "sign" "I", Cond.fieldLink RX4 140 "PeatHearthsModel" "at" "I", Cond.fieldLink RX4 149 "PeatHearthsModel" "first" "I", Cond.methodLink RX4 143 yX4_next, Cond.instanceMethod yX4_next, Cond.selects RX4 yX4_next yX4_next, Cond.initialized RX4, Cond.code yX4_next cX4_next 1 (some .int), Cond.fieldLink RX4 137 "PeatHearthsModel" "length" "I", Cond.fieldLink RX4 22 "PeatHearthsModel" "buffer" "[I", Cond.methodLink RX4 146 yX4_takeDigit, Cond.instanceMethod yX4_takeDigit, Cond.selects RX4 yX4_takeDigit yX4_takeDigit, Cond.code yX4_takeDigit cX4_takeDigit 4 (some .int), Cond.methodLink RX4 29 yX4_within, Cond.static yX4_within, Cond.code yX4_within cX4_within 3 (some .boolean), Cond.methodLink RX4 164 yX4_readsWork, Cond.instanceMethod yX4_readsWork, Cond.selects RX4 yX4_readsWork yX4_readsWork, Cond.code yX4_readsWork cX4_readsWork 1 (some .boolean), Cond.fieldLink RX4 155 "PeatHearthsModel" "second" "I", Cond.fieldLink RX4 158 "PeatHearthsModel" "third" "I", Cond.methodLink RX4 152 yX4_takes]
def wsX4_readsPart_r2 : List Cond := [Cond.instanceMethod yX4_takes, Cond.selects RX4 yX4_takes yX4_takes, Cond.code yX4_takes cX4_takes 3 (some .boolean), Cond.methodLink RX4 168 yX4_readsDays, Cond.instanceMethod yX4_readsDays, Cond.selects RX4 yX4_readsDays yX4_readsDays, Cond.code yX4_readsDays cX4_readsDays 2 (some .boolean)]
def wsX4_readsPart : List Cond := .code yX4_readsPart cX4_readsPart 1 (some .boolean) :: ((wsX4_readsPart_r1 ++ wsX4_readsPart_r2) ++ wsX40)
def wsX4_findError_r1 : List Cond := [Cond.fieldLink RX4 140 "PeatHearthsModel" "at" "I", Cond.fieldLink RX4 137 "PeatHearthsModel" "length" "I", Cond.methodLink RX4 171 yX4_readsPart, Cond.instanceMethod yX4_readsPart, Cond.selects RX4 yX4_readsPart yX4_readsPart, Cond.initialized RX4, Cond.code yX4_readsPart cX4_readsPart 1 (some .boolean), Cond.fieldLink RX4 161 "PeatHearthsModel" "sign" "I", Cond.fieldLink RX4 149 "PeatHearthsModel" "first" "I", Cond.methodLink RX4 143 yX4_next, Cond.instanceMethod yX4_next, Cond.selects RX4 yX4_next yX4_next, Cond.code yX4_next cX4_next 1 (some .int), Cond.fieldLink RX4 22 "PeatHearthsModel" "buffer" "[I", Cond.methodLink RX4 146 yX4_takeDigit, Cond.instanceMethod yX4_takeDigit, Cond.selects RX4 yX4_takeDigit yX4_takeDigit, Cond.code yX4_takeDigit cX4_takeDigit 4 (some .int), Cond.methodLink RX4 29 yX4_within, Cond.static yX4_within, Cond.code yX4_within cX4_within 3 (some .boolean), Cond.methodLink RX4 164 yX4_readsWork, Cond.instanceMethod yX4_readsWork, Cond.selects RX4 yX4_readsWork yX4_readsWork]
def wsX4_findError_r2 : List Cond := [Cond.code yX4_readsWork cX4_readsWork 1 (some .boolean), Cond.fieldLink RX4 155 "PeatHearthsModel" "second" "I", Cond.fieldLink RX4 158 "PeatHearthsModel" "third" "I", Cond.methodLink RX4 152 yX4_takes, Cond.instanceMethod yX4_takes, Cond.selects RX4 yX4_takes yX4_takes, Cond.code yX4_takes cX4_takes 3 (some .boolean), Cond.methodLink RX4 168 yX4_readsDays, Cond.instanceMethod yX4_readsDays, Cond.selects RX4 yX4_readsDays yX4_readsDays, Cond.code yX4_readsDays cX4_readsDays 2 (some .boolean)]
def wsX4_findError : List Cond := .code yX4_findError cX4_findError 1 (some .int) :: ((wsX4_findError_r1 ++ wsX4_findError_r2) ++ wsX40)
def wsX4_firstError_r1 : List Cond := [Cond.fieldLink RX4 25 "PeatHearthsModel" "thrown" "I", Cond.fieldLink RX4 137 "PeatHearthsModel" "length" "I", Cond.methodLink RX4 174 yX4_findError, Cond.instanceMethod yX4_findError, Cond.selects RX4 yX4_findError yX4_findError, Cond.initialized RX4, Cond.code yX4_findError cX4_findError 1 (some .int), Cond.fieldLink RX4 140 "PeatHearthsModel" "at" "I", Cond.methodLink RX4 171 yX4_readsPart, Cond.instanceMethod yX4_readsPart, Cond.selects RX4 yX4_readsPart yX4_readsPart, Cond.code yX4_readsPart cX4_readsPart 1 (some .boolean), Cond.fieldLink RX4 161 "PeatHearthsModel" "sign" "I", Cond.fieldLink RX4 149 "PeatHearthsModel" "first" "I", Cond.methodLink RX4 143 yX4_next, Cond.instanceMethod yX4_next, Cond.selects RX4 yX4_next yX4_next, Cond.code yX4_next cX4_next 1 (some .int), Cond.fieldLink RX4 22 "PeatHearthsModel" "buffer" "[I", Cond.methodLink RX4 146 yX4_takeDigit, Cond.instanceMethod yX4_takeDigit, Cond.selects RX4 yX4_takeDigit yX4_takeDigit, Cond.code yX4_takeDigit cX4_takeDigit 4 (some .int), Cond.methodLink RX4 29 yX4_within]
def wsX4_firstError_r2 : List Cond := [Cond.static yX4_within, Cond.code yX4_within cX4_within 3 (some .boolean), Cond.methodLink RX4 164 yX4_readsWork, Cond.instanceMethod yX4_readsWork, Cond.selects RX4 yX4_readsWork yX4_readsWork, Cond.code yX4_readsWork cX4_readsWork 1 (some .boolean), Cond.fieldLink RX4 155 "PeatHearthsModel" "second" "I", Cond.fieldLink RX4 158 "PeatHearthsModel" "third" "I", Cond.methodLink RX4 152 yX4_takes, Cond.instanceMethod yX4_takes, Cond.selects RX4 yX4_takes yX4_takes, Cond.code yX4_takes cX4_takes 3 (some .boolean), Cond.methodLink RX4 168 yX4_readsDays, Cond.instanceMethod yX4_readsDays, Cond.selects RX4 yX4_readsDays yX4_readsDays, Cond.code yX4_readsDays cX4_readsDays 2 (some .boolean)]
def wsX4_firstError : List Cond := .code yX4_firstError cX4_firstError 2 (some .int) :: ((wsX4_firstError_r1 ++ wsX4_firstError_r2) ++ wsX40)
def wsX4_doesPart_r1 : List Cond := [Cond.fieldLink RX4 161 "PeatHearthsModel" "sign" "I", Cond.fieldLink RX4 155 "PeatHearthsModel" "second" "I", Cond.fieldLink RX4 158 "PeatHearthsModel" "third" "I", Cond.fieldLink RX4 149 "PeatHearthsModel" "first" "I", Cond.methodLink RX4 119 yX4_reason, Cond.instanceMethod yX4_reason, Cond.selects RX4 yX4_reason yX4_reason, Cond.initialized RX4, Cond.code yX4_reason cX4_reason 4 (some .int), Cond.fieldLink RX4 7 "PeatHearthsModel" "state" "[I", Cond.methodLink RX4 103 yX4_sharesOf, Cond.instanceMethod yX4_sharesOf, Cond.selects RX4 yX4_sharesOf yX4_sharesOf, Cond.code yX4_sharesOf cX4_sharesOf 3 (some .int), Cond.methodLink RX4 85 yX4_commons, Cond.instanceMethod yX4_commons, Cond.selects RX4 yX4_commons yX4_commons, Cond.code yX4_commons cX4_commons 4 (some .int), Cond.methodLink RX4 88 yX4_workers, Cond.instanceMethod yX4_workers, Cond.selects RX4 yX4_workers yX4_workers, Cond.code yX4_workers cX4_workers 5 (some .int), Cond.methodLink RX4 106 yX4_setToWork, Cond.instanceMethod yX4_setToWork]
def wsX4_doesPart_r2 : List Cond := [Cond.selects RX4 yX4_setToWork yX4_setToWork, Cond.code yX4_setToWork cX4_setToWork 4 none, Cond.methodLink RX4 128 yX4_passes, Cond.instanceMethod yX4_passes, Cond.selects RX4 yX4_passes yX4_passes, Cond.code yX4_passes cX4_passes 4 (some .int), Cond.methodLink RX4 82 yX4_passOne, Cond.instanceMethod yX4_passOne, Cond.selects RX4 yX4_passOne yX4_passOne, Cond.code yX4_passOne cX4_passOne 5 (some .int), Cond.methodLink RX4 63 yX4_rainOf, Cond.instanceMethod yX4_rainOf, Cond.selects RX4 yX4_rainOf yX4_rainOf, Cond.code yX4_rainOf cX4_rainOf 4 (some .int), Cond.constantLong RX4 47 (7), Cond.constantLong RX4 49 (10), Cond.methodLink RX4 66 yX4_cutAll, Cond.instanceMethod yX4_cutAll, Cond.selects RX4 yX4_cutAll yX4_cutAll, Cond.code yX4_cutAll cX4_cutAll 5 none, Cond.methodLink RX4 51 yX4_less, Cond.static yX4_less, Cond.code yX4_less cX4_less 2 (some .int), Cond.methodLink RX4 69 yX4_soak]
def wsX4_doesPart_r3 : List Cond := [Cond.instanceMethod yX4_soak, Cond.selects RX4 yX4_soak yX4_soak, Cond.code yX4_soak cX4_soak 4 none, Cond.methodLink RX4 73 yX4_dry, Cond.instanceMethod yX4_dry, Cond.selects RX4 yX4_dry yX4_dry, Cond.code yX4_dry cX4_dry 4 none, Cond.methodLink RX4 76 yX4_burnAll, Cond.instanceMethod yX4_burnAll, Cond.selects RX4 yX4_burnAll yX4_burnAll, Cond.code yX4_burnAll cX4_burnAll 3 none, Cond.methodLink RX4 79 yX4_cart, Cond.instanceMethod yX4_cart, Cond.selects RX4 yX4_cart yX4_cart, Cond.code yX4_cart cX4_cart 6 (some .int), Cond.methodLink RX4 59 yX4_bringHome, Cond.instanceMethod yX4_bringHome, Cond.selects RX4 yX4_bringHome yX4_bringHome, Cond.code yX4_bringHome cX4_bringHome 6 none, Cond.methodLink RX4 55 yX4_poorest, Cond.instanceMethod yX4_poorest, Cond.selects RX4 yX4_poorest yX4_poorest, Cond.code yX4_poorest cX4_poorest 4 (some .int), Cond.methodLink RX4 125 yX4_turnSnow]
def wsX4_doesPart_r4 : List Cond := [Cond.instanceMethod yX4_turnSnow, Cond.selects RX4 yX4_turnSnow yX4_turnSnow, Cond.code yX4_turnSnow cX4_turnSnow 2 (some .int)]
def wsX4_doesPart : List Cond := .code yX4_doesPart cX4_doesPart 1 (some .boolean) :: ((wsX4_doesPart_r1 ++ (wsX4_doesPart_r2 ++ (wsX4_doesPart_r3 ++ wsX4_doesPart_r4))) ++ wsX40)
def wsX4_play_r1 : List Cond := [Cond.fieldLink RX4 25 "PeatHearthsModel" "thrown" "I", Cond.fieldLink RX4 140 "PeatHearthsModel" "at" "I", Cond.fieldLink RX4 137 "PeatHearthsModel" "length" "I", Cond.methodLink RX4 174 yX4_findError, Cond.instanceMethod yX4_findError, Cond.selects RX4 yX4_findError yX4_findError, Cond.initialized RX4, Cond.code yX4_findError cX4_findError 1 (some .int), Cond.methodLink RX4 171 yX4_readsPart, Cond.instanceMethod yX4_readsPart, Cond.selects RX4 yX4_readsPart yX4_readsPart, Cond.code yX4_readsPart cX4_readsPart 1 (some .boolean), Cond.fieldLink RX4 161 "PeatHearthsModel" "sign" "I", Cond.fieldLink RX4 149 "PeatHearthsModel" "first" "I", Cond.methodLink RX4 143 yX4_next, Cond.instanceMethod yX4_next, Cond.selects RX4 yX4_next yX4_next, Cond.code yX4_next cX4_next 1 (some .int), Cond.fieldLink RX4 22 "PeatHearthsModel" "buffer" "[I", Cond.methodLink RX4 146 yX4_takeDigit, Cond.instanceMethod yX4_takeDigit, Cond.selects RX4 yX4_takeDigit yX4_takeDigit, Cond.code yX4_takeDigit cX4_takeDigit 4 (some .int), Cond.methodLink RX4 29 yX4_within]
def wsX4_play_r2 : List Cond := [Cond.static yX4_within, Cond.code yX4_within cX4_within 3 (some .boolean), Cond.methodLink RX4 164 yX4_readsWork, Cond.instanceMethod yX4_readsWork, Cond.selects RX4 yX4_readsWork yX4_readsWork, Cond.code yX4_readsWork cX4_readsWork 1 (some .boolean), Cond.fieldLink RX4 155 "PeatHearthsModel" "second" "I", Cond.fieldLink RX4 158 "PeatHearthsModel" "third" "I", Cond.methodLink RX4 152 yX4_takes, Cond.instanceMethod yX4_takes, Cond.selects RX4 yX4_takes yX4_takes, Cond.code yX4_takes cX4_takes 3 (some .boolean), Cond.methodLink RX4 168 yX4_readsDays, Cond.instanceMethod yX4_readsDays, Cond.selects RX4 yX4_readsDays yX4_readsDays, Cond.code yX4_readsDays cX4_readsDays 2 (some .boolean), Cond.methodLink RX4 36 yX4_fails, Cond.instanceMethod yX4_fails, Cond.selects RX4 yX4_fails yX4_fails, Cond.code yX4_fails cX4_fails 2 (some .int), Cond.methodLink RX4 44 yX4_save, Cond.instanceMethod yX4_save, Cond.selects RX4 yX4_save yX4_save, Cond.code yX4_save cX4_save 2 none]
def wsX4_play_r3 : List Cond := [Cond.fieldLink RX4 33 "PeatHearthsModel" "savedMany" "I", Cond.fieldLink RX4 16 "PeatHearthsModel" "saved" "[I", Cond.fieldLink RX4 7 "PeatHearthsModel" "state" "[I", Cond.methodLink RX4 177 yX4_doesPart, Cond.instanceMethod yX4_doesPart, Cond.selects RX4 yX4_doesPart yX4_doesPart, Cond.code yX4_doesPart cX4_doesPart 1 (some .boolean), Cond.methodLink RX4 119 yX4_reason, Cond.instanceMethod yX4_reason, Cond.selects RX4 yX4_reason yX4_reason, Cond.code yX4_reason cX4_reason 4 (some .int), Cond.methodLink RX4 103 yX4_sharesOf, Cond.instanceMethod yX4_sharesOf, Cond.selects RX4 yX4_sharesOf yX4_sharesOf, Cond.code yX4_sharesOf cX4_sharesOf 3 (some .int), Cond.methodLink RX4 85 yX4_commons, Cond.instanceMethod yX4_commons, Cond.selects RX4 yX4_commons yX4_commons, Cond.code yX4_commons cX4_commons 4 (some .int), Cond.methodLink RX4 88 yX4_workers, Cond.instanceMethod yX4_workers, Cond.selects RX4 yX4_workers yX4_workers, Cond.code yX4_workers cX4_workers 5 (some .int), Cond.methodLink RX4 106 yX4_setToWork]
def wsX4_play_r4 : List Cond := [Cond.instanceMethod yX4_setToWork, Cond.selects RX4 yX4_setToWork yX4_setToWork, Cond.code yX4_setToWork cX4_setToWork 4 none, Cond.methodLink RX4 128 yX4_passes, Cond.instanceMethod yX4_passes, Cond.selects RX4 yX4_passes yX4_passes, Cond.code yX4_passes cX4_passes 4 (some .int), Cond.methodLink RX4 82 yX4_passOne, Cond.instanceMethod yX4_passOne, Cond.selects RX4 yX4_passOne yX4_passOne, Cond.code yX4_passOne cX4_passOne 5 (some .int), Cond.methodLink RX4 63 yX4_rainOf, Cond.instanceMethod yX4_rainOf, Cond.selects RX4 yX4_rainOf yX4_rainOf, Cond.code yX4_rainOf cX4_rainOf 4 (some .int), Cond.constantLong RX4 47 (7), Cond.constantLong RX4 49 (10), Cond.methodLink RX4 66 yX4_cutAll, Cond.instanceMethod yX4_cutAll, Cond.selects RX4 yX4_cutAll yX4_cutAll, Cond.code yX4_cutAll cX4_cutAll 5 none, Cond.methodLink RX4 51 yX4_less, Cond.static yX4_less, Cond.code yX4_less cX4_less 2 (some .int)]
def wsX4_play_r5 : List Cond := [Cond.methodLink RX4 69 yX4_soak, Cond.instanceMethod yX4_soak, Cond.selects RX4 yX4_soak yX4_soak, Cond.code yX4_soak cX4_soak 4 none, Cond.methodLink RX4 73 yX4_dry, Cond.instanceMethod yX4_dry, Cond.selects RX4 yX4_dry yX4_dry, Cond.code yX4_dry cX4_dry 4 none, Cond.methodLink RX4 76 yX4_burnAll, Cond.instanceMethod yX4_burnAll, Cond.selects RX4 yX4_burnAll yX4_burnAll, Cond.code yX4_burnAll cX4_burnAll 3 none, Cond.methodLink RX4 79 yX4_cart, Cond.instanceMethod yX4_cart, Cond.selects RX4 yX4_cart yX4_cart, Cond.code yX4_cart cX4_cart 6 (some .int), Cond.methodLink RX4 59 yX4_bringHome, Cond.instanceMethod yX4_bringHome, Cond.selects RX4 yX4_bringHome yX4_bringHome, Cond.code yX4_bringHome cX4_bringHome 6 none, Cond.methodLink RX4 55 yX4_poorest, Cond.instanceMethod yX4_poorest, Cond.selects RX4 yX4_poorest yX4_poorest, Cond.code yX4_poorest cX4_poorest 4 (some .int)]
def wsX4_play_r6 : List Cond := [Cond.methodLink RX4 125 yX4_turnSnow, Cond.instanceMethod yX4_turnSnow, Cond.selects RX4 yX4_turnSnow yX4_turnSnow, Cond.code yX4_turnSnow cX4_turnSnow 2 (some .int)]
def wsX4_play : List Cond := .code yX4_play cX4_play 3 (some .int) :: ((wsX4_play_r1 ++ (wsX4_play_r2 ++ (wsX4_play_r3 ++ (wsX4_play_r4 ++ (wsX4_play_r5 ++ wsX4_play_r6))))) ++ wsX40)
def wsX4_tellsHearth_r1 : List Cond := [Cond.fieldLink RX4 7 "PeatHearthsModel" "state" "[I", Cond.methodLink RX4 100 yX4_ofHearth, Cond.instanceMethod yX4_ofHearth, Cond.selects RX4 yX4_ofHearth yX4_ofHearth, Cond.initialized RX4, Cond.code yX4_ofHearth cX4_ofHearth 4 (some .int), Cond.methodLink RX4 94 yX4_turvesOn, Cond.instanceMethod yX4_turvesOn, Cond.selects RX4 yX4_turvesOn yX4_turvesOn, Cond.code yX4_turvesOn cX4_turvesOn 4 (some .int), Cond.methodLink RX4 180 yX4_shortNow, Cond.instanceMethod yX4_shortNow, Cond.selects RX4 yX4_shortNow yX4_shortNow, Cond.code yX4_shortNow cX4_shortNow 2 (some .int), Cond.methodLink RX4 97 yX4_atLeastNone, Cond.static yX4_atLeastNone, Cond.code yX4_atLeastNone cX4_atLeastNone 1 (some .int), Cond.methodLink RX4 183 yX4_shortThen, Cond.instanceMethod yX4_shortThen, Cond.selects RX4 yX4_shortThen yX4_shortThen, Cond.code yX4_shortThen cX4_shortThen 2 (some .int), Cond.methodLink RX4 186 yX4_shortByBook, Cond.instanceMethod yX4_shortByBook, Cond.selects RX4 yX4_shortByBook yX4_shortByBook]
def wsX4_tellsHearth_r2 : List Cond := [Cond.code yX4_shortByBook cX4_shortByBook 3 (some .int)]
def wsX4_tellsHearth : List Cond := .code yX4_tellsHearth cX4_tellsHearth 3 (some .int) :: ((wsX4_tellsHearth_r1 ++ wsX4_tellsHearth_r2) ++ wsX40)
def wsX4_hearthOf_r1 : List Cond := [Cond.fieldLink RX4 25 "PeatHearthsModel" "thrown" "I", Cond.methodLink RX4 109 yX4_isHearth, Cond.static yX4_isHearth, Cond.initialized RX4, Cond.code yX4_isHearth cX4_isHearth 1 (some .boolean), Cond.methodLink RX4 29 yX4_within, Cond.static yX4_within, Cond.code yX4_within cX4_within 3 (some .boolean), Cond.methodLink RX4 36 yX4_fails, Cond.instanceMethod yX4_fails, Cond.selects RX4 yX4_fails yX4_fails, Cond.code yX4_fails cX4_fails 2 (some .int), Cond.methodLink RX4 189 yX4_tellsHearth, Cond.instanceMethod yX4_tellsHearth, Cond.selects RX4 yX4_tellsHearth yX4_tellsHearth, Cond.code yX4_tellsHearth cX4_tellsHearth 3 (some .int), Cond.fieldLink RX4 7 "PeatHearthsModel" "state" "[I", Cond.methodLink RX4 100 yX4_ofHearth, Cond.instanceMethod yX4_ofHearth, Cond.selects RX4 yX4_ofHearth yX4_ofHearth, Cond.code yX4_ofHearth cX4_ofHearth 4 (some .int), Cond.methodLink RX4 94 yX4_turvesOn, Cond.instanceMethod yX4_turvesOn, Cond.selects RX4 yX4_turvesOn yX4_turvesOn]
def wsX4_hearthOf_r2 : List Cond := [Cond.code yX4_turvesOn cX4_turvesOn 4 (some .int), Cond.methodLink RX4 180 yX4_shortNow, Cond.instanceMethod yX4_shortNow, Cond.selects RX4 yX4_shortNow yX4_shortNow, Cond.code yX4_shortNow cX4_shortNow 2 (some .int), Cond.methodLink RX4 97 yX4_atLeastNone, Cond.static yX4_atLeastNone, Cond.code yX4_atLeastNone cX4_atLeastNone 1 (some .int), Cond.methodLink RX4 183 yX4_shortThen, Cond.instanceMethod yX4_shortThen, Cond.selects RX4 yX4_shortThen yX4_shortThen, Cond.code yX4_shortThen cX4_shortThen 2 (some .int), Cond.methodLink RX4 186 yX4_shortByBook, Cond.instanceMethod yX4_shortByBook, Cond.selects RX4 yX4_shortByBook yX4_shortByBook, Cond.code yX4_shortByBook cX4_shortByBook 3 (some .int)]
def wsX4_hearthOf : List Cond := .code yX4_hearthOf cX4_hearthOf 3 (some .int) :: ((wsX4_hearthOf_r1 ++ wsX4_hearthOf_r2) ++ wsX40)
def wsX4_tellsBank : List Cond := .code yX4_tellsBank cX4_tellsBank 3 (some .int) :: ([.fieldLink RX4 7 "PeatHearthsModel" "state" "[I", .methodLink RX4 85 yX4_commons, .instanceMethod yX4_commons, .selects RX4 yX4_commons yX4_commons, .initialized RX4, .code yX4_commons cX4_commons 4 (some .int), .methodLink RX4 91 yX4_workersOn, .instanceMethod yX4_workersOn, .selects RX4 yX4_workersOn yX4_workersOn, .code yX4_workersOn cX4_workersOn 4 (some .int), .methodLink RX4 88 yX4_workers, .instanceMethod yX4_workers, .selects RX4 yX4_workers yX4_workers, .code yX4_workers cX4_workers 5 (some .int), .methodLink RX4 192 yX4_lieOn, .instanceMethod yX4_lieOn, .selects RX4 yX4_lieOn yX4_lieOn, .code yX4_lieOn cX4_lieOn 4 (some .int), .methodLink RX4 94 yX4_turvesOn, .instanceMethod yX4_turvesOn, .selects RX4 yX4_turvesOn yX4_turvesOn, .code yX4_turvesOn cX4_turvesOn 4 (some .int)] ++ wsX40)
def wsX4_bankOf_r1 : List Cond := [Cond.fieldLink RX4 25 "PeatHearthsModel" "thrown" "I", Cond.methodLink RX4 113 yX4_isBank, Cond.static yX4_isBank, Cond.initialized RX4, Cond.code yX4_isBank cX4_isBank 1 (some .boolean), Cond.methodLink RX4 29 yX4_within, Cond.static yX4_within, Cond.code yX4_within cX4_within 3 (some .boolean), Cond.methodLink RX4 36 yX4_fails, Cond.instanceMethod yX4_fails, Cond.selects RX4 yX4_fails yX4_fails, Cond.code yX4_fails cX4_fails 2 (some .int), Cond.methodLink RX4 195 yX4_tellsBank, Cond.instanceMethod yX4_tellsBank, Cond.selects RX4 yX4_tellsBank yX4_tellsBank, Cond.code yX4_tellsBank cX4_tellsBank 3 (some .int), Cond.fieldLink RX4 7 "PeatHearthsModel" "state" "[I", Cond.methodLink RX4 85 yX4_commons, Cond.instanceMethod yX4_commons, Cond.selects RX4 yX4_commons yX4_commons, Cond.code yX4_commons cX4_commons 4 (some .int), Cond.methodLink RX4 91 yX4_workersOn, Cond.instanceMethod yX4_workersOn, Cond.selects RX4 yX4_workersOn yX4_workersOn]
def wsX4_bankOf_r2 : List Cond := [Cond.code yX4_workersOn cX4_workersOn 4 (some .int), Cond.methodLink RX4 88 yX4_workers, Cond.instanceMethod yX4_workers, Cond.selects RX4 yX4_workers yX4_workers, Cond.code yX4_workers cX4_workers 5 (some .int), Cond.methodLink RX4 192 yX4_lieOn, Cond.instanceMethod yX4_lieOn, Cond.selects RX4 yX4_lieOn yX4_lieOn, Cond.code yX4_lieOn cX4_lieOn 4 (some .int), Cond.methodLink RX4 94 yX4_turvesOn, Cond.instanceMethod yX4_turvesOn, Cond.selects RX4 yX4_turvesOn yX4_turvesOn, Cond.code yX4_turvesOn cX4_turvesOn 4 (some .int)]
def wsX4_bankOf : List Cond := .code yX4_bankOf cX4_bankOf 3 (some .int) :: ((wsX4_bankOf_r1 ++ wsX4_bankOf_r2) ++ wsX40)
def wsX4_tellsPlot : List Cond := .code yX4_tellsPlot cX4_tellsPlot 5 (some .int) :: ([.fieldLink RX4 7 "PeatHearthsModel" "state" "[I", .methodLink RX4 88 yX4_workers, .instanceMethod yX4_workers, .selects RX4 yX4_workers yX4_workers, .initialized RX4, .code yX4_workers cX4_workers 5 (some .int)] ++ wsX40)
def wsX4_plot : List Cond := .code yX4_plot cX4_plot 4 (some .int) :: ([.fieldLink RX4 25 "PeatHearthsModel" "thrown" "I", .methodLink RX4 109 yX4_isHearth, .static yX4_isHearth, .initialized RX4, .code yX4_isHearth cX4_isHearth 1 (some .boolean), .methodLink RX4 29 yX4_within, .static yX4_within, .code yX4_within cX4_within 3 (some .boolean), .methodLink RX4 113 yX4_isBank, .static yX4_isBank, .code yX4_isBank cX4_isBank 1 (some .boolean), .methodLink RX4 36 yX4_fails, .instanceMethod yX4_fails, .selects RX4 yX4_fails yX4_fails, .code yX4_fails cX4_fails 2 (some .int), .methodLink RX4 198 yX4_tellsPlot, .instanceMethod yX4_tellsPlot, .selects RX4 yX4_tellsPlot yX4_tellsPlot, .code yX4_tellsPlot cX4_tellsPlot 5 (some .int), .fieldLink RX4 7 "PeatHearthsModel" "state" "[I", .methodLink RX4 88 yX4_workers, .instanceMethod yX4_workers, .selects RX4 yX4_workers yX4_workers, .code yX4_workers cX4_workers 5 (some .int)] ++ wsX40)
def wsX4_tellsCutter : List Cond := .code yX4_tellsCutter cX4_tellsCutter 3 (some .int) :: ([.fieldLink RX4 7 "PeatHearthsModel" "state" "[I"] ++ wsX40)
def wsX4_cutter : List Cond := .code yX4_cutter cX4_cutter 3 (some .int) :: ([.fieldLink RX4 25 "PeatHearthsModel" "thrown" "I", .methodLink RX4 116 yX4_isCutter, .static yX4_isCutter, .initialized RX4, .code yX4_isCutter cX4_isCutter 1 (some .boolean), .methodLink RX4 29 yX4_within, .static yX4_within, .code yX4_within cX4_within 3 (some .boolean), .methodLink RX4 36 yX4_fails, .instanceMethod yX4_fails, .selects RX4 yX4_fails yX4_fails, .code yX4_fails cX4_fails 2 (some .int), .methodLink RX4 202 yX4_tellsCutter, .instanceMethod yX4_tellsCutter, .selects RX4 yX4_tellsCutter yX4_tellsCutter, .code yX4_tellsCutter cX4_tellsCutter 3 (some .int), .fieldLink RX4 7 "PeatHearthsModel" "state" "[I"] ++ wsX40)
def wsX4_rain : List Cond := .code yX4_rain cX4_rain 2 (some .int) :: ([.fieldLink RX4 25 "PeatHearthsModel" "thrown" "I", .methodLink RX4 36 yX4_fails, .instanceMethod yX4_fails, .selects RX4 yX4_fails yX4_fails, .initialized RX4, .code yX4_fails cX4_fails 2 (some .int), .methodLink RX4 63 yX4_rainOf, .instanceMethod yX4_rainOf, .selects RX4 yX4_rainOf yX4_rainOf, .code yX4_rainOf cX4_rainOf 4 (some .int), .constantLong RX4 47 (7), .fieldLink RX4 7 "PeatHearthsModel" "state" "[I", .constantLong RX4 49 (10)] ++ wsX40)
def wsX4_sumOf : List Cond := .code yX4_sumOf cX4_sumOf 5 (some .int) :: ([.fieldLink RX4 7 "PeatHearthsModel" "state" "[I"] ++ wsX40)
def wsX4_shortHearths : List Cond := .code yX4_shortHearths cX4_shortHearths 5 (some .int) :: ([.methodLink RX4 180 yX4_shortNow, .instanceMethod yX4_shortNow, .selects RX4 yX4_shortNow yX4_shortNow, .initialized RX4, .code yX4_shortNow cX4_shortNow 2 (some .int), .fieldLink RX4 7 "PeatHearthsModel" "state" "[I", .methodLink RX4 97 yX4_atLeastNone, .static yX4_atLeastNone, .code yX4_atLeastNone cX4_atLeastNone 1 (some .int), .methodLink RX4 183 yX4_shortThen, .instanceMethod yX4_shortThen, .selects RX4 yX4_shortThen yX4_shortThen, .code yX4_shortThen cX4_shortThen 2 (some .int), .methodLink RX4 100 yX4_ofHearth, .instanceMethod yX4_ofHearth, .selects RX4 yX4_ofHearth yX4_ofHearth, .code yX4_ofHearth cX4_ofHearth 4 (some .int), .methodLink RX4 94 yX4_turvesOn, .instanceMethod yX4_turvesOn, .selects RX4 yX4_turvesOn yX4_turvesOn, .code yX4_turvesOn cX4_turvesOn 4 (some .int)] ++ wsX40)
def wsX4_tellsCount_r1 : List Cond := [Cond.fieldLink RX4 7 "PeatHearthsModel" "state" "[I", Cond.fieldLink RX4 33 "PeatHearthsModel" "savedMany" "I", Cond.methodLink RX4 122 yX4_allWorkers, Cond.instanceMethod yX4_allWorkers, Cond.selects RX4 yX4_allWorkers yX4_allWorkers, Cond.initialized RX4, Cond.code yX4_allWorkers cX4_allWorkers 3 (some .int), Cond.methodLink RX4 91 yX4_workersOn, Cond.instanceMethod yX4_workersOn, Cond.selects RX4 yX4_workersOn yX4_workersOn, Cond.code yX4_workersOn cX4_workersOn 4 (some .int), Cond.methodLink RX4 88 yX4_workers, Cond.instanceMethod yX4_workers, Cond.selects RX4 yX4_workers yX4_workers, Cond.code yX4_workers cX4_workers 5 (some .int), Cond.methodLink RX4 205 yX4_sumOf, Cond.instanceMethod yX4_sumOf, Cond.selects RX4 yX4_sumOf yX4_sumOf, Cond.code yX4_sumOf cX4_sumOf 5 (some .int), Cond.methodLink RX4 208 yX4_shortHearths, Cond.instanceMethod yX4_shortHearths, Cond.selects RX4 yX4_shortHearths yX4_shortHearths, Cond.code yX4_shortHearths cX4_shortHearths 5 (some .int), Cond.methodLink RX4 180 yX4_shortNow]
def wsX4_tellsCount_r2 : List Cond := [Cond.instanceMethod yX4_shortNow, Cond.selects RX4 yX4_shortNow yX4_shortNow, Cond.code yX4_shortNow cX4_shortNow 2 (some .int), Cond.methodLink RX4 97 yX4_atLeastNone, Cond.static yX4_atLeastNone, Cond.code yX4_atLeastNone cX4_atLeastNone 1 (some .int), Cond.methodLink RX4 183 yX4_shortThen, Cond.instanceMethod yX4_shortThen, Cond.selects RX4 yX4_shortThen yX4_shortThen, Cond.code yX4_shortThen cX4_shortThen 2 (some .int), Cond.methodLink RX4 100 yX4_ofHearth, Cond.instanceMethod yX4_ofHearth, Cond.selects RX4 yX4_ofHearth yX4_ofHearth, Cond.code yX4_ofHearth cX4_ofHearth 4 (some .int), Cond.methodLink RX4 94 yX4_turvesOn, Cond.instanceMethod yX4_turvesOn, Cond.selects RX4 yX4_turvesOn yX4_turvesOn, Cond.code yX4_turvesOn cX4_turvesOn 4 (some .int)]
def wsX4_tellsCount : List Cond := .code yX4_tellsCount cX4_tellsCount 2 (some .int) :: ((wsX4_tellsCount_r1 ++ wsX4_tellsCount_r2) ++ wsX40)
def wsX4_count_r1 : List Cond := [Cond.fieldLink RX4 25 "PeatHearthsModel" "thrown" "I", Cond.methodLink RX4 29 yX4_within, Cond.static yX4_within, Cond.initialized RX4, Cond.code yX4_within cX4_within 3 (some .boolean), Cond.methodLink RX4 212 yX4_tellsCount, Cond.instanceMethod yX4_tellsCount, Cond.selects RX4 yX4_tellsCount yX4_tellsCount, Cond.code yX4_tellsCount cX4_tellsCount 2 (some .int), Cond.fieldLink RX4 7 "PeatHearthsModel" "state" "[I", Cond.fieldLink RX4 33 "PeatHearthsModel" "savedMany" "I", Cond.methodLink RX4 122 yX4_allWorkers, Cond.instanceMethod yX4_allWorkers, Cond.selects RX4 yX4_allWorkers yX4_allWorkers, Cond.code yX4_allWorkers cX4_allWorkers 3 (some .int), Cond.methodLink RX4 91 yX4_workersOn, Cond.instanceMethod yX4_workersOn, Cond.selects RX4 yX4_workersOn yX4_workersOn, Cond.code yX4_workersOn cX4_workersOn 4 (some .int), Cond.methodLink RX4 88 yX4_workers, Cond.instanceMethod yX4_workers, Cond.selects RX4 yX4_workers yX4_workers, Cond.code yX4_workers cX4_workers 5 (some .int), Cond.methodLink RX4 205 yX4_sumOf]
def wsX4_count_r2 : List Cond := [Cond.instanceMethod yX4_sumOf, Cond.selects RX4 yX4_sumOf yX4_sumOf, Cond.code yX4_sumOf cX4_sumOf 5 (some .int), Cond.methodLink RX4 208 yX4_shortHearths, Cond.instanceMethod yX4_shortHearths, Cond.selects RX4 yX4_shortHearths yX4_shortHearths, Cond.code yX4_shortHearths cX4_shortHearths 5 (some .int), Cond.methodLink RX4 180 yX4_shortNow, Cond.instanceMethod yX4_shortNow, Cond.selects RX4 yX4_shortNow yX4_shortNow, Cond.code yX4_shortNow cX4_shortNow 2 (some .int), Cond.methodLink RX4 97 yX4_atLeastNone, Cond.static yX4_atLeastNone, Cond.code yX4_atLeastNone cX4_atLeastNone 1 (some .int), Cond.methodLink RX4 183 yX4_shortThen, Cond.instanceMethod yX4_shortThen, Cond.selects RX4 yX4_shortThen yX4_shortThen, Cond.code yX4_shortThen cX4_shortThen 2 (some .int), Cond.methodLink RX4 100 yX4_ofHearth, Cond.instanceMethod yX4_ofHearth, Cond.selects RX4 yX4_ofHearth yX4_ofHearth, Cond.code yX4_ofHearth cX4_ofHearth 4 (some .int), Cond.methodLink RX4 94 yX4_turvesOn, Cond.instanceMethod yX4_turvesOn]
def wsX4_count_r3 : List Cond := [Cond.selects RX4 yX4_turvesOn yX4_turvesOn, Cond.code yX4_turvesOn cX4_turvesOn 4 (some .int), Cond.methodLink RX4 36 yX4_fails, Cond.instanceMethod yX4_fails, Cond.selects RX4 yX4_fails yX4_fails, Cond.code yX4_fails cX4_fails 2 (some .int)]
def wsX4_count : List Cond := .code yX4_count cX4_count 2 (some .int) :: ((wsX4_count_r1 ++ (wsX4_count_r2 ++ wsX4_count_r3)) ++ wsX40)
def wsX4_whyNot_r1 : List Cond := [Cond.fieldLink RX4 25 "PeatHearthsModel" "thrown" "I", Cond.methodLink RX4 116 yX4_isCutter, Cond.static yX4_isCutter, Cond.initialized RX4, Cond.code yX4_isCutter cX4_isCutter 1 (some .boolean), Cond.methodLink RX4 29 yX4_within, Cond.static yX4_within, Cond.code yX4_within cX4_within 3 (some .boolean), Cond.methodLink RX4 109 yX4_isHearth, Cond.static yX4_isHearth, Cond.code yX4_isHearth cX4_isHearth 1 (some .boolean), Cond.methodLink RX4 113 yX4_isBank, Cond.static yX4_isBank, Cond.code yX4_isBank cX4_isBank 1 (some .boolean), Cond.methodLink RX4 119 yX4_reason, Cond.instanceMethod yX4_reason, Cond.selects RX4 yX4_reason yX4_reason, Cond.code yX4_reason cX4_reason 4 (some .int), Cond.fieldLink RX4 7 "PeatHearthsModel" "state" "[I", Cond.methodLink RX4 103 yX4_sharesOf, Cond.instanceMethod yX4_sharesOf, Cond.selects RX4 yX4_sharesOf yX4_sharesOf, Cond.code yX4_sharesOf cX4_sharesOf 3 (some .int), Cond.methodLink RX4 85 yX4_commons]
def wsX4_whyNot_r2 : List Cond := [Cond.instanceMethod yX4_commons, Cond.selects RX4 yX4_commons yX4_commons, Cond.code yX4_commons cX4_commons 4 (some .int), Cond.methodLink RX4 88 yX4_workers, Cond.instanceMethod yX4_workers, Cond.selects RX4 yX4_workers yX4_workers, Cond.code yX4_workers cX4_workers 5 (some .int), Cond.methodLink RX4 36 yX4_fails, Cond.instanceMethod yX4_fails, Cond.selects RX4 yX4_fails yX4_fails, Cond.code yX4_fails cX4_fails 2 (some .int)]
def wsX4_whyNot : List Cond := .code yX4_whyNot cX4_whyNot 4 (some .int) :: ((wsX4_whyNot_r1 ++ wsX4_whyNot_r2) ++ wsX40)
def wsX4_wouldPass_r1 : List Cond := [Cond.methodLink RX4 215 yX4_putAside, Cond.instanceMethod yX4_putAside, Cond.selects RX4 yX4_putAside yX4_putAside, Cond.initialized RX4, Cond.code yX4_putAside cX4_putAside 2 none, Cond.fieldLink RX4 13 "PeatHearthsModel" "spare" "[I", Cond.fieldLink RX4 7 "PeatHearthsModel" "state" "[I", Cond.methodLink RX4 205 yX4_sumOf, Cond.instanceMethod yX4_sumOf, Cond.selects RX4 yX4_sumOf yX4_sumOf, Cond.code yX4_sumOf cX4_sumOf 5 (some .int), Cond.methodLink RX4 128 yX4_passes, Cond.instanceMethod yX4_passes, Cond.selects RX4 yX4_passes yX4_passes, Cond.code yX4_passes cX4_passes 4 (some .int), Cond.methodLink RX4 82 yX4_passOne, Cond.instanceMethod yX4_passOne, Cond.selects RX4 yX4_passOne yX4_passOne, Cond.code yX4_passOne cX4_passOne 5 (some .int), Cond.methodLink RX4 63 yX4_rainOf, Cond.instanceMethod yX4_rainOf, Cond.selects RX4 yX4_rainOf yX4_rainOf, Cond.code yX4_rainOf cX4_rainOf 4 (some .int), Cond.constantLong RX4 47 (7)]
def wsX4_wouldPass_r2 : List Cond := [Cond.constantLong RX4 49 (10), Cond.methodLink RX4 66 yX4_cutAll, Cond.instanceMethod yX4_cutAll, Cond.selects RX4 yX4_cutAll yX4_cutAll, Cond.code yX4_cutAll cX4_cutAll 5 none, Cond.methodLink RX4 51 yX4_less, Cond.static yX4_less, Cond.code yX4_less cX4_less 2 (some .int), Cond.methodLink RX4 69 yX4_soak, Cond.instanceMethod yX4_soak, Cond.selects RX4 yX4_soak yX4_soak, Cond.code yX4_soak cX4_soak 4 none, Cond.methodLink RX4 73 yX4_dry, Cond.instanceMethod yX4_dry, Cond.selects RX4 yX4_dry yX4_dry, Cond.code yX4_dry cX4_dry 4 none, Cond.methodLink RX4 76 yX4_burnAll, Cond.instanceMethod yX4_burnAll, Cond.selects RX4 yX4_burnAll yX4_burnAll, Cond.code yX4_burnAll cX4_burnAll 3 none, Cond.methodLink RX4 79 yX4_cart, Cond.instanceMethod yX4_cart, Cond.selects RX4 yX4_cart yX4_cart, Cond.code yX4_cart cX4_cart 6 (some .int)]
def wsX4_wouldPass_r3 : List Cond := [Cond.methodLink RX4 59 yX4_bringHome, Cond.instanceMethod yX4_bringHome, Cond.selects RX4 yX4_bringHome yX4_bringHome, Cond.code yX4_bringHome cX4_bringHome 6 none, Cond.methodLink RX4 55 yX4_poorest, Cond.instanceMethod yX4_poorest, Cond.selects RX4 yX4_poorest yX4_poorest, Cond.code yX4_poorest cX4_poorest 4 (some .int), Cond.methodLink RX4 208 yX4_shortHearths, Cond.instanceMethod yX4_shortHearths, Cond.selects RX4 yX4_shortHearths yX4_shortHearths, Cond.code yX4_shortHearths cX4_shortHearths 5 (some .int), Cond.methodLink RX4 180 yX4_shortNow, Cond.instanceMethod yX4_shortNow, Cond.selects RX4 yX4_shortNow yX4_shortNow, Cond.code yX4_shortNow cX4_shortNow 2 (some .int), Cond.methodLink RX4 97 yX4_atLeastNone, Cond.static yX4_atLeastNone, Cond.code yX4_atLeastNone cX4_atLeastNone 1 (some .int), Cond.methodLink RX4 183 yX4_shortThen, Cond.instanceMethod yX4_shortThen, Cond.selects RX4 yX4_shortThen yX4_shortThen, Cond.code yX4_shortThen cX4_shortThen 2 (some .int), Cond.methodLink RX4 100 yX4_ofHearth]
def wsX4_wouldPass_r4 : List Cond := [Cond.instanceMethod yX4_ofHearth, Cond.selects RX4 yX4_ofHearth yX4_ofHearth, Cond.code yX4_ofHearth cX4_ofHearth 4 (some .int), Cond.methodLink RX4 94 yX4_turvesOn, Cond.instanceMethod yX4_turvesOn, Cond.selects RX4 yX4_turvesOn yX4_turvesOn, Cond.code yX4_turvesOn cX4_turvesOn 4 (some .int), Cond.methodLink RX4 218 yX4_takeBack, Cond.instanceMethod yX4_takeBack, Cond.selects RX4 yX4_takeBack yX4_takeBack, Cond.code yX4_takeBack cX4_takeBack 2 none]
def wsX4_wouldPass : List Cond := .code yX4_wouldPass cX4_wouldPass 6 (some .int) :: ((wsX4_wouldPass_r1 ++ (wsX4_wouldPass_r2 ++ (wsX4_wouldPass_r3 ++ wsX4_wouldPass_r4))) ++ wsX40)
def wsX4_ifPassed_r1 : List Cond := [Cond.fieldLink RX4 25 "PeatHearthsModel" "thrown" "I", Cond.methodLink RX4 29 yX4_within, Cond.static yX4_within, Cond.initialized RX4, Cond.code yX4_within cX4_within 3 (some .boolean), Cond.methodLink RX4 221 yX4_wouldPass, Cond.instanceMethod yX4_wouldPass, Cond.selects RX4 yX4_wouldPass yX4_wouldPass, Cond.code yX4_wouldPass cX4_wouldPass 6 (some .int), Cond.methodLink RX4 215 yX4_putAside, Cond.instanceMethod yX4_putAside, Cond.selects RX4 yX4_putAside yX4_putAside, Cond.code yX4_putAside cX4_putAside 2 none, Cond.fieldLink RX4 13 "PeatHearthsModel" "spare" "[I", Cond.fieldLink RX4 7 "PeatHearthsModel" "state" "[I", Cond.methodLink RX4 205 yX4_sumOf, Cond.instanceMethod yX4_sumOf, Cond.selects RX4 yX4_sumOf yX4_sumOf, Cond.code yX4_sumOf cX4_sumOf 5 (some .int), Cond.methodLink RX4 128 yX4_passes, Cond.instanceMethod yX4_passes, Cond.selects RX4 yX4_passes yX4_passes, Cond.code yX4_passes cX4_passes 4 (some .int), Cond.methodLink RX4 82 yX4_passOne]
def wsX4_ifPassed_r2 : List Cond := [Cond.instanceMethod yX4_passOne, Cond.selects RX4 yX4_passOne yX4_passOne, Cond.code yX4_passOne cX4_passOne 5 (some .int), Cond.methodLink RX4 63 yX4_rainOf, Cond.instanceMethod yX4_rainOf, Cond.selects RX4 yX4_rainOf yX4_rainOf, Cond.code yX4_rainOf cX4_rainOf 4 (some .int), Cond.constantLong RX4 47 (7), Cond.constantLong RX4 49 (10), Cond.methodLink RX4 66 yX4_cutAll, Cond.instanceMethod yX4_cutAll, Cond.selects RX4 yX4_cutAll yX4_cutAll, Cond.code yX4_cutAll cX4_cutAll 5 none, Cond.methodLink RX4 51 yX4_less, Cond.static yX4_less, Cond.code yX4_less cX4_less 2 (some .int), Cond.methodLink RX4 69 yX4_soak, Cond.instanceMethod yX4_soak, Cond.selects RX4 yX4_soak yX4_soak, Cond.code yX4_soak cX4_soak 4 none, Cond.methodLink RX4 73 yX4_dry, Cond.instanceMethod yX4_dry, Cond.selects RX4 yX4_dry yX4_dry, Cond.code yX4_dry cX4_dry 4 none]
def wsX4_ifPassed_r3 : List Cond := [Cond.methodLink RX4 76 yX4_burnAll, Cond.instanceMethod yX4_burnAll, Cond.selects RX4 yX4_burnAll yX4_burnAll, Cond.code yX4_burnAll cX4_burnAll 3 none, Cond.methodLink RX4 79 yX4_cart, Cond.instanceMethod yX4_cart, Cond.selects RX4 yX4_cart yX4_cart, Cond.code yX4_cart cX4_cart 6 (some .int), Cond.methodLink RX4 59 yX4_bringHome, Cond.instanceMethod yX4_bringHome, Cond.selects RX4 yX4_bringHome yX4_bringHome, Cond.code yX4_bringHome cX4_bringHome 6 none, Cond.methodLink RX4 55 yX4_poorest, Cond.instanceMethod yX4_poorest, Cond.selects RX4 yX4_poorest yX4_poorest, Cond.code yX4_poorest cX4_poorest 4 (some .int), Cond.methodLink RX4 208 yX4_shortHearths, Cond.instanceMethod yX4_shortHearths, Cond.selects RX4 yX4_shortHearths yX4_shortHearths, Cond.code yX4_shortHearths cX4_shortHearths 5 (some .int), Cond.methodLink RX4 180 yX4_shortNow, Cond.instanceMethod yX4_shortNow, Cond.selects RX4 yX4_shortNow yX4_shortNow, Cond.code yX4_shortNow cX4_shortNow 2 (some .int)]
def wsX4_ifPassed_r4 : List Cond := [Cond.methodLink RX4 97 yX4_atLeastNone, Cond.static yX4_atLeastNone, Cond.code yX4_atLeastNone cX4_atLeastNone 1 (some .int), Cond.methodLink RX4 183 yX4_shortThen, Cond.instanceMethod yX4_shortThen, Cond.selects RX4 yX4_shortThen yX4_shortThen, Cond.code yX4_shortThen cX4_shortThen 2 (some .int), Cond.methodLink RX4 100 yX4_ofHearth, Cond.instanceMethod yX4_ofHearth, Cond.selects RX4 yX4_ofHearth yX4_ofHearth, Cond.code yX4_ofHearth cX4_ofHearth 4 (some .int), Cond.methodLink RX4 94 yX4_turvesOn, Cond.instanceMethod yX4_turvesOn, Cond.selects RX4 yX4_turvesOn yX4_turvesOn, Cond.code yX4_turvesOn cX4_turvesOn 4 (some .int), Cond.methodLink RX4 218 yX4_takeBack, Cond.instanceMethod yX4_takeBack, Cond.selects RX4 yX4_takeBack yX4_takeBack, Cond.code yX4_takeBack cX4_takeBack 2 none, Cond.methodLink RX4 36 yX4_fails, Cond.instanceMethod yX4_fails, Cond.selects RX4 yX4_fails yX4_fails, Cond.code yX4_fails cX4_fails 2 (some .int)]
def wsX4_ifPassed : List Cond := .code yX4_ifPassed cX4_ifPassed 3 (some .int) :: ((wsX4_ifPassed_r1 ++ (wsX4_ifPassed_r2 ++ (wsX4_ifPassed_r3 ++ wsX4_ifPassed_r4))) ++ wsX40)
def wsX4_daysUntil_r1 : List Cond := [Cond.methodLink RX4 215 yX4_putAside, Cond.instanceMethod yX4_putAside, Cond.selects RX4 yX4_putAside yX4_putAside, Cond.initialized RX4, Cond.code yX4_putAside cX4_putAside 2 none, Cond.fieldLink RX4 13 "PeatHearthsModel" "spare" "[I", Cond.fieldLink RX4 7 "PeatHearthsModel" "state" "[I", Cond.methodLink RX4 180 yX4_shortNow, Cond.instanceMethod yX4_shortNow, Cond.selects RX4 yX4_shortNow yX4_shortNow, Cond.code yX4_shortNow cX4_shortNow 2 (some .int), Cond.methodLink RX4 97 yX4_atLeastNone, Cond.static yX4_atLeastNone, Cond.code yX4_atLeastNone cX4_atLeastNone 1 (some .int), Cond.methodLink RX4 82 yX4_passOne, Cond.instanceMethod yX4_passOne, Cond.selects RX4 yX4_passOne yX4_passOne, Cond.code yX4_passOne cX4_passOne 5 (some .int), Cond.methodLink RX4 63 yX4_rainOf, Cond.instanceMethod yX4_rainOf, Cond.selects RX4 yX4_rainOf yX4_rainOf, Cond.code yX4_rainOf cX4_rainOf 4 (some .int), Cond.constantLong RX4 47 (7), Cond.constantLong RX4 49 (10)]
def wsX4_daysUntil_r2 : List Cond := [Cond.methodLink RX4 66 yX4_cutAll, Cond.instanceMethod yX4_cutAll, Cond.selects RX4 yX4_cutAll yX4_cutAll, Cond.code yX4_cutAll cX4_cutAll 5 none, Cond.methodLink RX4 51 yX4_less, Cond.static yX4_less, Cond.code yX4_less cX4_less 2 (some .int), Cond.methodLink RX4 69 yX4_soak, Cond.instanceMethod yX4_soak, Cond.selects RX4 yX4_soak yX4_soak, Cond.code yX4_soak cX4_soak 4 none, Cond.methodLink RX4 73 yX4_dry, Cond.instanceMethod yX4_dry, Cond.selects RX4 yX4_dry yX4_dry, Cond.code yX4_dry cX4_dry 4 none, Cond.methodLink RX4 76 yX4_burnAll, Cond.instanceMethod yX4_burnAll, Cond.selects RX4 yX4_burnAll yX4_burnAll, Cond.code yX4_burnAll cX4_burnAll 3 none, Cond.methodLink RX4 79 yX4_cart, Cond.instanceMethod yX4_cart, Cond.selects RX4 yX4_cart yX4_cart, Cond.code yX4_cart cX4_cart 6 (some .int), Cond.methodLink RX4 59 yX4_bringHome]
def wsX4_daysUntil_r3 : List Cond := [Cond.instanceMethod yX4_bringHome, Cond.selects RX4 yX4_bringHome yX4_bringHome, Cond.code yX4_bringHome cX4_bringHome 6 none, Cond.methodLink RX4 55 yX4_poorest, Cond.instanceMethod yX4_poorest, Cond.selects RX4 yX4_poorest yX4_poorest, Cond.code yX4_poorest cX4_poorest 4 (some .int), Cond.methodLink RX4 218 yX4_takeBack, Cond.instanceMethod yX4_takeBack, Cond.selects RX4 yX4_takeBack yX4_takeBack, Cond.code yX4_takeBack cX4_takeBack 2 none]
def wsX4_daysUntil : List Cond := .code yX4_daysUntil cX4_daysUntil 3 (some .int) :: ((wsX4_daysUntil_r1 ++ (wsX4_daysUntil_r2 ++ wsX4_daysUntil_r3)) ++ wsX40)
def wsX4_enoughIn_r1 : List Cond := [Cond.fieldLink RX4 25 "PeatHearthsModel" "thrown" "I", Cond.methodLink RX4 109 yX4_isHearth, Cond.static yX4_isHearth, Cond.initialized RX4, Cond.code yX4_isHearth cX4_isHearth 1 (some .boolean), Cond.methodLink RX4 29 yX4_within, Cond.static yX4_within, Cond.code yX4_within cX4_within 3 (some .boolean), Cond.methodLink RX4 224 yX4_daysUntil, Cond.instanceMethod yX4_daysUntil, Cond.selects RX4 yX4_daysUntil yX4_daysUntil, Cond.code yX4_daysUntil cX4_daysUntil 3 (some .int), Cond.methodLink RX4 215 yX4_putAside, Cond.instanceMethod yX4_putAside, Cond.selects RX4 yX4_putAside yX4_putAside, Cond.code yX4_putAside cX4_putAside 2 none, Cond.fieldLink RX4 13 "PeatHearthsModel" "spare" "[I", Cond.fieldLink RX4 7 "PeatHearthsModel" "state" "[I", Cond.methodLink RX4 180 yX4_shortNow, Cond.instanceMethod yX4_shortNow, Cond.selects RX4 yX4_shortNow yX4_shortNow, Cond.code yX4_shortNow cX4_shortNow 2 (some .int), Cond.methodLink RX4 97 yX4_atLeastNone, Cond.static yX4_atLeastNone]
def wsX4_enoughIn_r2 : List Cond := [Cond.code yX4_atLeastNone cX4_atLeastNone 1 (some .int), Cond.methodLink RX4 82 yX4_passOne, Cond.instanceMethod yX4_passOne, Cond.selects RX4 yX4_passOne yX4_passOne, Cond.code yX4_passOne cX4_passOne 5 (some .int), Cond.methodLink RX4 63 yX4_rainOf, Cond.instanceMethod yX4_rainOf, Cond.selects RX4 yX4_rainOf yX4_rainOf, Cond.code yX4_rainOf cX4_rainOf 4 (some .int), Cond.constantLong RX4 47 (7), Cond.constantLong RX4 49 (10), Cond.methodLink RX4 66 yX4_cutAll, Cond.instanceMethod yX4_cutAll, Cond.selects RX4 yX4_cutAll yX4_cutAll, Cond.code yX4_cutAll cX4_cutAll 5 none, Cond.methodLink RX4 51 yX4_less, Cond.static yX4_less, Cond.code yX4_less cX4_less 2 (some .int), Cond.methodLink RX4 69 yX4_soak, Cond.instanceMethod yX4_soak, Cond.selects RX4 yX4_soak yX4_soak, Cond.code yX4_soak cX4_soak 4 none, Cond.methodLink RX4 73 yX4_dry, Cond.instanceMethod yX4_dry]
def wsX4_enoughIn_r3 : List Cond := [Cond.selects RX4 yX4_dry yX4_dry, Cond.code yX4_dry cX4_dry 4 none, Cond.methodLink RX4 76 yX4_burnAll, Cond.instanceMethod yX4_burnAll, Cond.selects RX4 yX4_burnAll yX4_burnAll, Cond.code yX4_burnAll cX4_burnAll 3 none, Cond.methodLink RX4 79 yX4_cart, Cond.instanceMethod yX4_cart, Cond.selects RX4 yX4_cart yX4_cart, Cond.code yX4_cart cX4_cart 6 (some .int), Cond.methodLink RX4 59 yX4_bringHome, Cond.instanceMethod yX4_bringHome, Cond.selects RX4 yX4_bringHome yX4_bringHome, Cond.code yX4_bringHome cX4_bringHome 6 none, Cond.methodLink RX4 55 yX4_poorest, Cond.instanceMethod yX4_poorest, Cond.selects RX4 yX4_poorest yX4_poorest, Cond.code yX4_poorest cX4_poorest 4 (some .int), Cond.methodLink RX4 218 yX4_takeBack, Cond.instanceMethod yX4_takeBack, Cond.selects RX4 yX4_takeBack yX4_takeBack, Cond.code yX4_takeBack cX4_takeBack 2 none, Cond.methodLink RX4 36 yX4_fails, Cond.instanceMethod yX4_fails]
def wsX4_enoughIn_r4 : List Cond := [Cond.selects RX4 yX4_fails yX4_fails, Cond.code yX4_fails cX4_fails 2 (some .int)]
def wsX4_enoughIn : List Cond := .code yX4_enoughIn cX4_enoughIn 2 (some .int) :: ((wsX4_enoughIn_r1 ++ (wsX4_enoughIn_r2 ++ (wsX4_enoughIn_r3 ++ wsX4_enoughIn_r4))) ++ wsX40)
def wsX4_homeWith_r1 : List Cond := [Cond.fieldLink RX4 7 "PeatHearthsModel" "state" "[I", Cond.methodLink RX4 215 yX4_putAside, Cond.instanceMethod yX4_putAside, Cond.selects RX4 yX4_putAside yX4_putAside, Cond.initialized RX4, Cond.code yX4_putAside cX4_putAside 2 none, Cond.fieldLink RX4 13 "PeatHearthsModel" "spare" "[I", Cond.methodLink RX4 106 yX4_setToWork, Cond.instanceMethod yX4_setToWork, Cond.selects RX4 yX4_setToWork yX4_setToWork, Cond.code yX4_setToWork cX4_setToWork 4 none, Cond.methodLink RX4 128 yX4_passes, Cond.instanceMethod yX4_passes, Cond.selects RX4 yX4_passes yX4_passes, Cond.code yX4_passes cX4_passes 4 (some .int), Cond.methodLink RX4 82 yX4_passOne, Cond.instanceMethod yX4_passOne, Cond.selects RX4 yX4_passOne yX4_passOne, Cond.code yX4_passOne cX4_passOne 5 (some .int), Cond.methodLink RX4 63 yX4_rainOf, Cond.instanceMethod yX4_rainOf, Cond.selects RX4 yX4_rainOf yX4_rainOf, Cond.code yX4_rainOf cX4_rainOf 4 (some .int), Cond.constantLong RX4 47 (7)]
def wsX4_homeWith_r2 : List Cond := [Cond.constantLong RX4 49 (10), Cond.methodLink RX4 66 yX4_cutAll, Cond.instanceMethod yX4_cutAll, Cond.selects RX4 yX4_cutAll yX4_cutAll, Cond.code yX4_cutAll cX4_cutAll 5 none, Cond.methodLink RX4 51 yX4_less, Cond.static yX4_less, Cond.code yX4_less cX4_less 2 (some .int), Cond.methodLink RX4 69 yX4_soak, Cond.instanceMethod yX4_soak, Cond.selects RX4 yX4_soak yX4_soak, Cond.code yX4_soak cX4_soak 4 none, Cond.methodLink RX4 73 yX4_dry, Cond.instanceMethod yX4_dry, Cond.selects RX4 yX4_dry yX4_dry, Cond.code yX4_dry cX4_dry 4 none, Cond.methodLink RX4 76 yX4_burnAll, Cond.instanceMethod yX4_burnAll, Cond.selects RX4 yX4_burnAll yX4_burnAll, Cond.code yX4_burnAll cX4_burnAll 3 none, Cond.methodLink RX4 79 yX4_cart, Cond.instanceMethod yX4_cart, Cond.selects RX4 yX4_cart yX4_cart, Cond.code yX4_cart cX4_cart 6 (some .int)]
def wsX4_homeWith_r3 : List Cond := [Cond.methodLink RX4 59 yX4_bringHome, Cond.instanceMethod yX4_bringHome, Cond.selects RX4 yX4_bringHome yX4_bringHome, Cond.code yX4_bringHome cX4_bringHome 6 none, Cond.methodLink RX4 55 yX4_poorest, Cond.instanceMethod yX4_poorest, Cond.selects RX4 yX4_poorest yX4_poorest, Cond.code yX4_poorest cX4_poorest 4 (some .int), Cond.methodLink RX4 218 yX4_takeBack, Cond.instanceMethod yX4_takeBack, Cond.selects RX4 yX4_takeBack yX4_takeBack, Cond.code yX4_takeBack cX4_takeBack 2 none]
def wsX4_homeWith : List Cond := .code yX4_homeWith cX4_homeWith 5 (some .int) :: ((wsX4_homeWith_r1 ++ (wsX4_homeWith_r2 ++ wsX4_homeWith_r3)) ++ wsX40)
def wsX4_bestFor_r1 : List Cond := [Cond.methodLink RX4 119 yX4_reason, Cond.instanceMethod yX4_reason, Cond.selects RX4 yX4_reason yX4_reason, Cond.initialized RX4, Cond.code yX4_reason cX4_reason 4 (some .int), Cond.fieldLink RX4 7 "PeatHearthsModel" "state" "[I", Cond.methodLink RX4 103 yX4_sharesOf, Cond.instanceMethod yX4_sharesOf, Cond.selects RX4 yX4_sharesOf yX4_sharesOf, Cond.code yX4_sharesOf cX4_sharesOf 3 (some .int), Cond.methodLink RX4 85 yX4_commons, Cond.instanceMethod yX4_commons, Cond.selects RX4 yX4_commons yX4_commons, Cond.code yX4_commons cX4_commons 4 (some .int), Cond.methodLink RX4 88 yX4_workers, Cond.instanceMethod yX4_workers, Cond.selects RX4 yX4_workers yX4_workers, Cond.code yX4_workers cX4_workers 5 (some .int), Cond.methodLink RX4 227 yX4_homeWith, Cond.instanceMethod yX4_homeWith, Cond.selects RX4 yX4_homeWith yX4_homeWith, Cond.code yX4_homeWith cX4_homeWith 5 (some .int), Cond.methodLink RX4 215 yX4_putAside, Cond.instanceMethod yX4_putAside]
def wsX4_bestFor_r2 : List Cond := [Cond.selects RX4 yX4_putAside yX4_putAside, Cond.code yX4_putAside cX4_putAside 2 none, Cond.fieldLink RX4 13 "PeatHearthsModel" "spare" "[I", Cond.methodLink RX4 106 yX4_setToWork, Cond.instanceMethod yX4_setToWork, Cond.selects RX4 yX4_setToWork yX4_setToWork, Cond.code yX4_setToWork cX4_setToWork 4 none, Cond.methodLink RX4 128 yX4_passes, Cond.instanceMethod yX4_passes, Cond.selects RX4 yX4_passes yX4_passes, Cond.code yX4_passes cX4_passes 4 (some .int), Cond.methodLink RX4 82 yX4_passOne, Cond.instanceMethod yX4_passOne, Cond.selects RX4 yX4_passOne yX4_passOne, Cond.code yX4_passOne cX4_passOne 5 (some .int), Cond.methodLink RX4 63 yX4_rainOf, Cond.instanceMethod yX4_rainOf, Cond.selects RX4 yX4_rainOf yX4_rainOf, Cond.code yX4_rainOf cX4_rainOf 4 (some .int), Cond.constantLong RX4 47 (7), Cond.constantLong RX4 49 (10), Cond.methodLink RX4 66 yX4_cutAll, Cond.instanceMethod yX4_cutAll, Cond.selects RX4 yX4_cutAll yX4_cutAll]
def wsX4_bestFor_r3 : List Cond := [Cond.code yX4_cutAll cX4_cutAll 5 none, Cond.methodLink RX4 51 yX4_less, Cond.static yX4_less, Cond.code yX4_less cX4_less 2 (some .int), Cond.methodLink RX4 69 yX4_soak, Cond.instanceMethod yX4_soak, Cond.selects RX4 yX4_soak yX4_soak, Cond.code yX4_soak cX4_soak 4 none, Cond.methodLink RX4 73 yX4_dry, Cond.instanceMethod yX4_dry, Cond.selects RX4 yX4_dry yX4_dry, Cond.code yX4_dry cX4_dry 4 none, Cond.methodLink RX4 76 yX4_burnAll, Cond.instanceMethod yX4_burnAll, Cond.selects RX4 yX4_burnAll yX4_burnAll, Cond.code yX4_burnAll cX4_burnAll 3 none, Cond.methodLink RX4 79 yX4_cart, Cond.instanceMethod yX4_cart, Cond.selects RX4 yX4_cart yX4_cart, Cond.code yX4_cart cX4_cart 6 (some .int), Cond.methodLink RX4 59 yX4_bringHome, Cond.instanceMethod yX4_bringHome, Cond.selects RX4 yX4_bringHome yX4_bringHome, Cond.code yX4_bringHome cX4_bringHome 6 none]
def wsX4_bestFor_r4 : List Cond := [Cond.methodLink RX4 55 yX4_poorest, Cond.instanceMethod yX4_poorest, Cond.selects RX4 yX4_poorest yX4_poorest, Cond.code yX4_poorest cX4_poorest 4 (some .int), Cond.methodLink RX4 218 yX4_takeBack, Cond.instanceMethod yX4_takeBack, Cond.selects RX4 yX4_takeBack yX4_takeBack, Cond.code yX4_takeBack cX4_takeBack 2 none]
def wsX4_bestFor : List Cond := .code yX4_bestFor cX4_bestFor 8 (some .int) :: ((wsX4_bestFor_r1 ++ (wsX4_bestFor_r2 ++ (wsX4_bestFor_r3 ++ wsX4_bestFor_r4))) ++ wsX40)
def wsX4_bestBank_r1 : List Cond := [Cond.fieldLink RX4 25 "PeatHearthsModel" "thrown" "I", Cond.methodLink RX4 116 yX4_isCutter, Cond.static yX4_isCutter, Cond.initialized RX4, Cond.code yX4_isCutter cX4_isCutter 1 (some .boolean), Cond.methodLink RX4 29 yX4_within, Cond.static yX4_within, Cond.code yX4_within cX4_within 3 (some .boolean), Cond.methodLink RX4 109 yX4_isHearth, Cond.static yX4_isHearth, Cond.code yX4_isHearth cX4_isHearth 1 (some .boolean), Cond.methodLink RX4 230 yX4_bestFor, Cond.instanceMethod yX4_bestFor, Cond.selects RX4 yX4_bestFor yX4_bestFor, Cond.code yX4_bestFor cX4_bestFor 8 (some .int), Cond.methodLink RX4 119 yX4_reason, Cond.instanceMethod yX4_reason, Cond.selects RX4 yX4_reason yX4_reason, Cond.code yX4_reason cX4_reason 4 (some .int), Cond.fieldLink RX4 7 "PeatHearthsModel" "state" "[I", Cond.methodLink RX4 103 yX4_sharesOf, Cond.instanceMethod yX4_sharesOf, Cond.selects RX4 yX4_sharesOf yX4_sharesOf, Cond.code yX4_sharesOf cX4_sharesOf 3 (some .int)]
def wsX4_bestBank_r2 : List Cond := [Cond.methodLink RX4 85 yX4_commons, Cond.instanceMethod yX4_commons, Cond.selects RX4 yX4_commons yX4_commons, Cond.code yX4_commons cX4_commons 4 (some .int), Cond.methodLink RX4 88 yX4_workers, Cond.instanceMethod yX4_workers, Cond.selects RX4 yX4_workers yX4_workers, Cond.code yX4_workers cX4_workers 5 (some .int), Cond.methodLink RX4 227 yX4_homeWith, Cond.instanceMethod yX4_homeWith, Cond.selects RX4 yX4_homeWith yX4_homeWith, Cond.code yX4_homeWith cX4_homeWith 5 (some .int), Cond.methodLink RX4 215 yX4_putAside, Cond.instanceMethod yX4_putAside, Cond.selects RX4 yX4_putAside yX4_putAside, Cond.code yX4_putAside cX4_putAside 2 none, Cond.fieldLink RX4 13 "PeatHearthsModel" "spare" "[I", Cond.methodLink RX4 106 yX4_setToWork, Cond.instanceMethod yX4_setToWork, Cond.selects RX4 yX4_setToWork yX4_setToWork, Cond.code yX4_setToWork cX4_setToWork 4 none, Cond.methodLink RX4 128 yX4_passes, Cond.instanceMethod yX4_passes, Cond.selects RX4 yX4_passes yX4_passes]
def wsX4_bestBank_r3 : List Cond := [Cond.code yX4_passes cX4_passes 4 (some .int), Cond.methodLink RX4 82 yX4_passOne, Cond.instanceMethod yX4_passOne, Cond.selects RX4 yX4_passOne yX4_passOne, Cond.code yX4_passOne cX4_passOne 5 (some .int), Cond.methodLink RX4 63 yX4_rainOf, Cond.instanceMethod yX4_rainOf, Cond.selects RX4 yX4_rainOf yX4_rainOf, Cond.code yX4_rainOf cX4_rainOf 4 (some .int), Cond.constantLong RX4 47 (7), Cond.constantLong RX4 49 (10), Cond.methodLink RX4 66 yX4_cutAll, Cond.instanceMethod yX4_cutAll, Cond.selects RX4 yX4_cutAll yX4_cutAll, Cond.code yX4_cutAll cX4_cutAll 5 none, Cond.methodLink RX4 51 yX4_less, Cond.static yX4_less, Cond.code yX4_less cX4_less 2 (some .int), Cond.methodLink RX4 69 yX4_soak, Cond.instanceMethod yX4_soak, Cond.selects RX4 yX4_soak yX4_soak, Cond.code yX4_soak cX4_soak 4 none, Cond.methodLink RX4 73 yX4_dry, Cond.instanceMethod yX4_dry]
def wsX4_bestBank_r4 : List Cond := [Cond.selects RX4 yX4_dry yX4_dry, Cond.code yX4_dry cX4_dry 4 none, Cond.methodLink RX4 76 yX4_burnAll, Cond.instanceMethod yX4_burnAll, Cond.selects RX4 yX4_burnAll yX4_burnAll, Cond.code yX4_burnAll cX4_burnAll 3 none, Cond.methodLink RX4 79 yX4_cart, Cond.instanceMethod yX4_cart, Cond.selects RX4 yX4_cart yX4_cart, Cond.code yX4_cart cX4_cart 6 (some .int), Cond.methodLink RX4 59 yX4_bringHome, Cond.instanceMethod yX4_bringHome, Cond.selects RX4 yX4_bringHome yX4_bringHome, Cond.code yX4_bringHome cX4_bringHome 6 none, Cond.methodLink RX4 55 yX4_poorest, Cond.instanceMethod yX4_poorest, Cond.selects RX4 yX4_poorest yX4_poorest, Cond.code yX4_poorest cX4_poorest 4 (some .int), Cond.methodLink RX4 218 yX4_takeBack, Cond.instanceMethod yX4_takeBack, Cond.selects RX4 yX4_takeBack yX4_takeBack, Cond.code yX4_takeBack cX4_takeBack 2 none, Cond.methodLink RX4 36 yX4_fails, Cond.instanceMethod yX4_fails]
def wsX4_bestBank_r5 : List Cond := [Cond.selects RX4 yX4_fails yX4_fails, Cond.code yX4_fails cX4_fails 2 (some .int)]
def wsX4_bestBank : List Cond := .code yX4_bestBank cX4_bestBank 3 (some .int) :: ((wsX4_bestBank_r1 ++ (wsX4_bestBank_r2 ++ (wsX4_bestBank_r3 ++ (wsX4_bestBank_r4 ++ wsX4_bestBank_r5)))) ++ wsX40)
def wsX4_share : List Cond := .code yX4_share cX4_share 2 (some .double) :: ([.methodLink RX4 205 yX4_sumOf, .instanceMethod yX4_sumOf, .selects RX4 yX4_sumOf yX4_sumOf, .initialized RX4, .code yX4_sumOf cX4_sumOf 5 (some .int), .fieldLink RX4 7 "PeatHearthsModel" "state" "[I"] ++ wsX40)
def wsX4_dryness : List Cond := .code yX4_dryness cX4_dryness 1 (some .double) :: ([.fieldLink RX4 25 "PeatHearthsModel" "thrown" "I", .methodLink RX4 233 yX4_share, .instanceMethod yX4_share, .selects RX4 yX4_share yX4_share, .initialized RX4, .code yX4_share cX4_share 2 (some .double), .methodLink RX4 205 yX4_sumOf, .instanceMethod yX4_sumOf, .selects RX4 yX4_sumOf yX4_sumOf, .code yX4_sumOf cX4_sumOf 5 (some .int), .fieldLink RX4 7 "PeatHearthsModel" "state" "[I"] ++ wsX40)
def wsX4_mix : List Cond := .code yX4_mix cX4_mix 3 none :: ([.constantLong RX4 237 (31), .fieldLink RX4 239 "PeatHearthsModel" "hash" "J"] ++ wsX40)
def wsX4_mixHearth_r1 : List Cond := [Cond.methodLink RX4 189 yX4_tellsHearth, Cond.instanceMethod yX4_tellsHearth, Cond.selects RX4 yX4_tellsHearth yX4_tellsHearth, Cond.initialized RX4, Cond.code yX4_tellsHearth cX4_tellsHearth 3 (some .int), Cond.fieldLink RX4 7 "PeatHearthsModel" "state" "[I", Cond.methodLink RX4 100 yX4_ofHearth, Cond.instanceMethod yX4_ofHearth, Cond.selects RX4 yX4_ofHearth yX4_ofHearth, Cond.code yX4_ofHearth cX4_ofHearth 4 (some .int), Cond.methodLink RX4 94 yX4_turvesOn, Cond.instanceMethod yX4_turvesOn, Cond.selects RX4 yX4_turvesOn yX4_turvesOn, Cond.code yX4_turvesOn cX4_turvesOn 4 (some .int), Cond.methodLink RX4 180 yX4_shortNow, Cond.instanceMethod yX4_shortNow, Cond.selects RX4 yX4_shortNow yX4_shortNow, Cond.code yX4_shortNow cX4_shortNow 2 (some .int), Cond.methodLink RX4 97 yX4_atLeastNone, Cond.static yX4_atLeastNone, Cond.code yX4_atLeastNone cX4_atLeastNone 1 (some .int), Cond.methodLink RX4 183 yX4_shortThen, Cond.instanceMethod yX4_shortThen, Cond.selects RX4 yX4_shortThen yX4_shortThen]
def wsX4_mixHearth_r2 : List Cond := [Cond.code yX4_shortThen cX4_shortThen 2 (some .int), Cond.methodLink RX4 186 yX4_shortByBook, Cond.instanceMethod yX4_shortByBook, Cond.selects RX4 yX4_shortByBook yX4_shortByBook, Cond.code yX4_shortByBook cX4_shortByBook 3 (some .int), Cond.methodLink RX4 243 yX4_mix, Cond.instanceMethod yX4_mix, Cond.selects RX4 yX4_mix yX4_mix, Cond.code yX4_mix cX4_mix 3 none, Cond.constantLong RX4 237 (31), Cond.fieldLink RX4 239 "PeatHearthsModel" "hash" "J", Cond.methodLink RX4 198 yX4_tellsPlot, Cond.instanceMethod yX4_tellsPlot, Cond.selects RX4 yX4_tellsPlot yX4_tellsPlot, Cond.code yX4_tellsPlot cX4_tellsPlot 5 (some .int), Cond.methodLink RX4 88 yX4_workers, Cond.instanceMethod yX4_workers, Cond.selects RX4 yX4_workers yX4_workers, Cond.code yX4_workers cX4_workers 5 (some .int), Cond.methodLink RX4 224 yX4_daysUntil, Cond.instanceMethod yX4_daysUntil, Cond.selects RX4 yX4_daysUntil yX4_daysUntil, Cond.code yX4_daysUntil cX4_daysUntil 3 (some .int), Cond.methodLink RX4 215 yX4_putAside]
def wsX4_mixHearth_r3 : List Cond := [Cond.instanceMethod yX4_putAside, Cond.selects RX4 yX4_putAside yX4_putAside, Cond.code yX4_putAside cX4_putAside 2 none, Cond.fieldLink RX4 13 "PeatHearthsModel" "spare" "[I", Cond.methodLink RX4 82 yX4_passOne, Cond.instanceMethod yX4_passOne, Cond.selects RX4 yX4_passOne yX4_passOne, Cond.code yX4_passOne cX4_passOne 5 (some .int), Cond.methodLink RX4 63 yX4_rainOf, Cond.instanceMethod yX4_rainOf, Cond.selects RX4 yX4_rainOf yX4_rainOf, Cond.code yX4_rainOf cX4_rainOf 4 (some .int), Cond.constantLong RX4 47 (7), Cond.constantLong RX4 49 (10), Cond.methodLink RX4 66 yX4_cutAll, Cond.instanceMethod yX4_cutAll, Cond.selects RX4 yX4_cutAll yX4_cutAll, Cond.code yX4_cutAll cX4_cutAll 5 none, Cond.methodLink RX4 51 yX4_less, Cond.static yX4_less, Cond.code yX4_less cX4_less 2 (some .int), Cond.methodLink RX4 69 yX4_soak, Cond.instanceMethod yX4_soak, Cond.selects RX4 yX4_soak yX4_soak]
def wsX4_mixHearth_r4 : List Cond := [Cond.code yX4_soak cX4_soak 4 none, Cond.methodLink RX4 73 yX4_dry, Cond.instanceMethod yX4_dry, Cond.selects RX4 yX4_dry yX4_dry, Cond.code yX4_dry cX4_dry 4 none, Cond.methodLink RX4 76 yX4_burnAll, Cond.instanceMethod yX4_burnAll, Cond.selects RX4 yX4_burnAll yX4_burnAll, Cond.code yX4_burnAll cX4_burnAll 3 none, Cond.methodLink RX4 79 yX4_cart, Cond.instanceMethod yX4_cart, Cond.selects RX4 yX4_cart yX4_cart, Cond.code yX4_cart cX4_cart 6 (some .int), Cond.methodLink RX4 59 yX4_bringHome, Cond.instanceMethod yX4_bringHome, Cond.selects RX4 yX4_bringHome yX4_bringHome, Cond.code yX4_bringHome cX4_bringHome 6 none, Cond.methodLink RX4 55 yX4_poorest, Cond.instanceMethod yX4_poorest, Cond.selects RX4 yX4_poorest yX4_poorest, Cond.code yX4_poorest cX4_poorest 4 (some .int), Cond.methodLink RX4 218 yX4_takeBack, Cond.instanceMethod yX4_takeBack, Cond.selects RX4 yX4_takeBack yX4_takeBack]
def wsX4_mixHearth_r5 : List Cond := [Cond.code yX4_takeBack cX4_takeBack 2 none, Cond.methodLink RX4 230 yX4_bestFor, Cond.instanceMethod yX4_bestFor, Cond.selects RX4 yX4_bestFor yX4_bestFor, Cond.code yX4_bestFor cX4_bestFor 8 (some .int), Cond.methodLink RX4 119 yX4_reason, Cond.instanceMethod yX4_reason, Cond.selects RX4 yX4_reason yX4_reason, Cond.code yX4_reason cX4_reason 4 (some .int), Cond.methodLink RX4 103 yX4_sharesOf, Cond.instanceMethod yX4_sharesOf, Cond.selects RX4 yX4_sharesOf yX4_sharesOf, Cond.code yX4_sharesOf cX4_sharesOf 3 (some .int), Cond.methodLink RX4 85 yX4_commons, Cond.instanceMethod yX4_commons, Cond.selects RX4 yX4_commons yX4_commons, Cond.code yX4_commons cX4_commons 4 (some .int), Cond.methodLink RX4 227 yX4_homeWith, Cond.instanceMethod yX4_homeWith, Cond.selects RX4 yX4_homeWith yX4_homeWith, Cond.code yX4_homeWith cX4_homeWith 5 (some .int), Cond.methodLink RX4 106 yX4_setToWork, Cond.instanceMethod yX4_setToWork, Cond.selects RX4 yX4_setToWork yX4_setToWork]
def wsX4_mixHearth_r6 : List Cond := [Cond.code yX4_setToWork cX4_setToWork 4 none, Cond.methodLink RX4 128 yX4_passes, Cond.instanceMethod yX4_passes, Cond.selects RX4 yX4_passes yX4_passes, Cond.code yX4_passes cX4_passes 4 (some .int)]
def wsX4_mixHearth : List Cond := .code yX4_mixHearth cX4_mixHearth 3 none :: ((wsX4_mixHearth_r1 ++ (wsX4_mixHearth_r2 ++ (wsX4_mixHearth_r3 ++ (wsX4_mixHearth_r4 ++ (wsX4_mixHearth_r5 ++ wsX4_mixHearth_r6))))) ++ wsX40)
def wsJxe99ae_isNaN_b9ae7 : List Cond := .code yJxe99ae_isNaN_b9ae7 cJxe99ae_isNaN_b9ae7 2 (some .boolean) :: ([])
def wsJxe99ae_doubleToLongBits_ccdee : List Cond := .code yJxe99ae_doubleToLongBits_ccdee cJxe99ae_doubleToLongBits_ccdee 2 (some .long) :: ([.methodLink RJxe99ae 134 ⟨"java/lang/Double", "doubleToRawLongBits", "(D)J"⟩, .native ⟨"java/lang/Double", "doubleToRawLongBits", "(D)J"⟩, .static ⟨"java/lang/Double", "doubleToRawLongBits", "(D)J"⟩, .initialized "java/lang/Double", .constantLong RJxe99ae 137 (9221120237041090560), .methodLink RJxe99ae 122 yJxe99ae_isNaN_b9ae7, .static yJxe99ae_isNaN_b9ae7, .initialized RJxe99ae, .code yJxe99ae_isNaN_b9ae7 cJxe99ae_isNaN_b9ae7 2 (some .boolean)])
def wsX4_digest_r1 : List Cond := [Cond.fieldLink RX4 25 "PeatHearthsModel" "thrown" "I", Cond.constantLong RX4 247 (3739), Cond.fieldLink RX4 239 "PeatHearthsModel" "hash" "J", Cond.fieldLink RX4 137 "PeatHearthsModel" "length" "I", Cond.fieldLink RX4 22 "PeatHearthsModel" "buffer" "[I", Cond.methodLink RX4 212 yX4_tellsCount, Cond.instanceMethod yX4_tellsCount, Cond.selects RX4 yX4_tellsCount yX4_tellsCount, Cond.initialized RX4, Cond.code yX4_tellsCount cX4_tellsCount 2 (some .int), Cond.fieldLink RX4 7 "PeatHearthsModel" "state" "[I", Cond.fieldLink RX4 33 "PeatHearthsModel" "savedMany" "I", Cond.methodLink RX4 122 yX4_allWorkers, Cond.instanceMethod yX4_allWorkers, Cond.selects RX4 yX4_allWorkers yX4_allWorkers, Cond.code yX4_allWorkers cX4_allWorkers 3 (some .int), Cond.methodLink RX4 91 yX4_workersOn, Cond.instanceMethod yX4_workersOn, Cond.selects RX4 yX4_workersOn yX4_workersOn, Cond.code yX4_workersOn cX4_workersOn 4 (some .int), Cond.methodLink RX4 88 yX4_workers, Cond.instanceMethod yX4_workers, Cond.selects RX4 yX4_workers yX4_workers, Cond.code yX4_workers cX4_workers 5 (some .int)]
def wsX4_digest_r2 : List Cond := [Cond.methodLink RX4 205 yX4_sumOf, Cond.instanceMethod yX4_sumOf, Cond.selects RX4 yX4_sumOf yX4_sumOf, Cond.code yX4_sumOf cX4_sumOf 5 (some .int), Cond.methodLink RX4 208 yX4_shortHearths, Cond.instanceMethod yX4_shortHearths, Cond.selects RX4 yX4_shortHearths yX4_shortHearths, Cond.code yX4_shortHearths cX4_shortHearths 5 (some .int), Cond.methodLink RX4 180 yX4_shortNow, Cond.instanceMethod yX4_shortNow, Cond.selects RX4 yX4_shortNow yX4_shortNow, Cond.code yX4_shortNow cX4_shortNow 2 (some .int), Cond.methodLink RX4 97 yX4_atLeastNone, Cond.static yX4_atLeastNone, Cond.code yX4_atLeastNone cX4_atLeastNone 1 (some .int), Cond.methodLink RX4 183 yX4_shortThen, Cond.instanceMethod yX4_shortThen, Cond.selects RX4 yX4_shortThen yX4_shortThen, Cond.code yX4_shortThen cX4_shortThen 2 (some .int), Cond.methodLink RX4 100 yX4_ofHearth, Cond.instanceMethod yX4_ofHearth, Cond.selects RX4 yX4_ofHearth yX4_ofHearth, Cond.code yX4_ofHearth cX4_ofHearth 4 (some .int), Cond.methodLink RX4 94 yX4_turvesOn]
def wsX4_digest_r3 : List Cond := [Cond.instanceMethod yX4_turvesOn, Cond.selects RX4 yX4_turvesOn yX4_turvesOn, Cond.code yX4_turvesOn cX4_turvesOn 4 (some .int), Cond.methodLink RX4 243 yX4_mix, Cond.instanceMethod yX4_mix, Cond.selects RX4 yX4_mix yX4_mix, Cond.code yX4_mix cX4_mix 3 none, Cond.constantLong RX4 237 (31), Cond.methodLink RX4 249 yX4_mixHearth, Cond.instanceMethod yX4_mixHearth, Cond.selects RX4 yX4_mixHearth yX4_mixHearth, Cond.code yX4_mixHearth cX4_mixHearth 3 none, Cond.methodLink RX4 189 yX4_tellsHearth, Cond.instanceMethod yX4_tellsHearth, Cond.selects RX4 yX4_tellsHearth yX4_tellsHearth, Cond.code yX4_tellsHearth cX4_tellsHearth 3 (some .int), Cond.methodLink RX4 186 yX4_shortByBook, Cond.instanceMethod yX4_shortByBook, Cond.selects RX4 yX4_shortByBook yX4_shortByBook, Cond.code yX4_shortByBook cX4_shortByBook 3 (some .int), Cond.methodLink RX4 198 yX4_tellsPlot, Cond.instanceMethod yX4_tellsPlot, Cond.selects RX4 yX4_tellsPlot yX4_tellsPlot, Cond.code yX4_tellsPlot cX4_tellsPlot 5 (some .int)]
def wsX4_digest_r4 : List Cond := [Cond.methodLink RX4 224 yX4_daysUntil, Cond.instanceMethod yX4_daysUntil, Cond.selects RX4 yX4_daysUntil yX4_daysUntil, Cond.code yX4_daysUntil cX4_daysUntil 3 (some .int), Cond.methodLink RX4 215 yX4_putAside, Cond.instanceMethod yX4_putAside, Cond.selects RX4 yX4_putAside yX4_putAside, Cond.code yX4_putAside cX4_putAside 2 none, Cond.fieldLink RX4 13 "PeatHearthsModel" "spare" "[I", Cond.methodLink RX4 82 yX4_passOne, Cond.instanceMethod yX4_passOne, Cond.selects RX4 yX4_passOne yX4_passOne, Cond.code yX4_passOne cX4_passOne 5 (some .int), Cond.methodLink RX4 63 yX4_rainOf, Cond.instanceMethod yX4_rainOf, Cond.selects RX4 yX4_rainOf yX4_rainOf, Cond.code yX4_rainOf cX4_rainOf 4 (some .int), Cond.constantLong RX4 47 (7), Cond.constantLong RX4 49 (10), Cond.methodLink RX4 66 yX4_cutAll, Cond.instanceMethod yX4_cutAll, Cond.selects RX4 yX4_cutAll yX4_cutAll, Cond.code yX4_cutAll cX4_cutAll 5 none, Cond.methodLink RX4 51 yX4_less]
def wsX4_digest_r5 : List Cond := [Cond.static yX4_less, Cond.code yX4_less cX4_less 2 (some .int), Cond.methodLink RX4 69 yX4_soak, Cond.instanceMethod yX4_soak, Cond.selects RX4 yX4_soak yX4_soak, Cond.code yX4_soak cX4_soak 4 none, Cond.methodLink RX4 73 yX4_dry, Cond.instanceMethod yX4_dry, Cond.selects RX4 yX4_dry yX4_dry, Cond.code yX4_dry cX4_dry 4 none, Cond.methodLink RX4 76 yX4_burnAll, Cond.instanceMethod yX4_burnAll, Cond.selects RX4 yX4_burnAll yX4_burnAll, Cond.code yX4_burnAll cX4_burnAll 3 none, Cond.methodLink RX4 79 yX4_cart, Cond.instanceMethod yX4_cart, Cond.selects RX4 yX4_cart yX4_cart, Cond.code yX4_cart cX4_cart 6 (some .int), Cond.methodLink RX4 59 yX4_bringHome, Cond.instanceMethod yX4_bringHome, Cond.selects RX4 yX4_bringHome yX4_bringHome, Cond.code yX4_bringHome cX4_bringHome 6 none, Cond.methodLink RX4 55 yX4_poorest, Cond.instanceMethod yX4_poorest]
def wsX4_digest_r6 : List Cond := [Cond.selects RX4 yX4_poorest yX4_poorest, Cond.code yX4_poorest cX4_poorest 4 (some .int), Cond.methodLink RX4 218 yX4_takeBack, Cond.instanceMethod yX4_takeBack, Cond.selects RX4 yX4_takeBack yX4_takeBack, Cond.code yX4_takeBack cX4_takeBack 2 none, Cond.methodLink RX4 230 yX4_bestFor, Cond.instanceMethod yX4_bestFor, Cond.selects RX4 yX4_bestFor yX4_bestFor, Cond.code yX4_bestFor cX4_bestFor 8 (some .int), Cond.methodLink RX4 119 yX4_reason, Cond.instanceMethod yX4_reason, Cond.selects RX4 yX4_reason yX4_reason, Cond.code yX4_reason cX4_reason 4 (some .int), Cond.methodLink RX4 103 yX4_sharesOf, Cond.instanceMethod yX4_sharesOf, Cond.selects RX4 yX4_sharesOf yX4_sharesOf, Cond.code yX4_sharesOf cX4_sharesOf 3 (some .int), Cond.methodLink RX4 85 yX4_commons, Cond.instanceMethod yX4_commons, Cond.selects RX4 yX4_commons yX4_commons, Cond.code yX4_commons cX4_commons 4 (some .int), Cond.methodLink RX4 227 yX4_homeWith, Cond.instanceMethod yX4_homeWith]
def wsX4_digest_r7 : List Cond := [Cond.selects RX4 yX4_homeWith yX4_homeWith, Cond.code yX4_homeWith cX4_homeWith 5 (some .int), Cond.methodLink RX4 106 yX4_setToWork, Cond.instanceMethod yX4_setToWork, Cond.selects RX4 yX4_setToWork yX4_setToWork, Cond.code yX4_setToWork cX4_setToWork 4 none, Cond.methodLink RX4 128 yX4_passes, Cond.instanceMethod yX4_passes, Cond.selects RX4 yX4_passes yX4_passes, Cond.code yX4_passes cX4_passes 4 (some .int), Cond.methodLink RX4 195 yX4_tellsBank, Cond.instanceMethod yX4_tellsBank, Cond.selects RX4 yX4_tellsBank yX4_tellsBank, Cond.code yX4_tellsBank cX4_tellsBank 3 (some .int), Cond.methodLink RX4 192 yX4_lieOn, Cond.instanceMethod yX4_lieOn, Cond.selects RX4 yX4_lieOn yX4_lieOn, Cond.code yX4_lieOn cX4_lieOn 4 (some .int), Cond.methodLink RX4 202 yX4_tellsCutter, Cond.instanceMethod yX4_tellsCutter, Cond.selects RX4 yX4_tellsCutter yX4_tellsCutter, Cond.code yX4_tellsCutter cX4_tellsCutter 3 (some .int), Cond.methodLink RX4 221 yX4_wouldPass, Cond.instanceMethod yX4_wouldPass]
def wsX4_digest_r8 : List Cond := [Cond.selects RX4 yX4_wouldPass yX4_wouldPass, Cond.code yX4_wouldPass cX4_wouldPass 6 (some .int), Cond.methodLink RX4 233 yX4_share, Cond.instanceMethod yX4_share, Cond.selects RX4 yX4_share yX4_share, Cond.code yX4_share cX4_share 2 (some .double), Cond.methodLink RX4 252 yJxe99ae_doubleToLongBits_ccdee, Cond.static yJxe99ae_doubleToLongBits_ccdee, Cond.initialized RJxe99ae, Cond.code yJxe99ae_doubleToLongBits_ccdee cJxe99ae_doubleToLongBits_ccdee 2 (some .long), Cond.methodLink RJxe99ae 134 ⟨"java/lang/Double", "doubleToRawLongBits", "(D)J"⟩, Cond.native ⟨"java/lang/Double", "doubleToRawLongBits", "(D)J"⟩, Cond.static ⟨"java/lang/Double", "doubleToRawLongBits", "(D)J"⟩, Cond.initialized "java/lang/Double", Cond.constantLong RJxe99ae 137 (9221120237041090560), Cond.methodLink RJxe99ae 122 yJxe99ae_isNaN_b9ae7, Cond.static yJxe99ae_isNaN_b9ae7, Cond.code yJxe99ae_isNaN_b9ae7 cJxe99ae_isNaN_b9ae7 2 (some .boolean)]
def wsX4_digest : List Cond := .code yX4_digest cX4_digest 2 (some .long) :: ((wsX4_digest_r1 ++ (wsX4_digest_r2 ++ (wsX4_digest_r3 ++ (wsX4_digest_r4 ++ (wsX4_digest_r5 ++ (wsX4_digest_r6 ++ (wsX4_digest_r7 ++ wsX4_digest_r8))))))) ++ wsX40)
def wsJ9_max_7cf53 : List Cond := .code yJ9_max_7cf53 cJ9_max_7cf53 2 (some .int) :: ([])
def wsJ9_min_7cf53 : List Cond := .code yJ9_min_7cf53 cJ9_min_7cf53 2 (some .int) :: ([])
def wsL_hearth_r1 : List Cond := [Cond.classLink RL 13 "java/lang/IndexOutOfBoundsException", Cond.classLink RL 15 "java/lang/IllegalArgumentException", Cond.methodLink RL 7 yX3_hearth, Cond.instanceMethod yX3_hearth, Cond.selects RX3 yX3_hearth yX3_hearth, Cond.initialized RX3, Cond.code yX3_hearth cX3_hearth 4 (some .int), Cond.fieldLink RX3 24 "PeatHearths" "saved" "LPeatHearths$Shelf;", Cond.fieldLink RX3 12 "PeatHearths" "land" "LPeatHearths$Land;", Cond.methodLink RX3 38 yX3_requireIndex, Cond.static yX3_requireIndex, Cond.code yX3_requireIndex cX3_requireIndex 2 none, Cond.classLink RX3 224 "java/lang/IndexOutOfBoundsException", Cond.initialized "java/lang/IndexOutOfBoundsException", Cond.methodLink RX3 42 yX3_requireRange, Cond.static yX3_requireRange, Cond.code yX3_requireRange cX3_requireRange 3 none, Cond.methodLink RX3 80 yX3_requireArgument, Cond.static yX3_requireArgument, Cond.code yX3_requireArgument cX3_requireArgument 1 none, Cond.classLink RX3 231 "java/lang/IllegalArgumentException", Cond.initialized "java/lang/IllegalArgumentException", Cond.methodLink RX3 46 yX1_push, Cond.instanceMethod yX1_push]
def wsL_hearth_r2 : List Cond := [Cond.selects RX1 yX1_push yX1_push, Cond.initialized RX1, Cond.code yX1_push cX1_push 4 none, Cond.fieldLink RX1 33 "PeatHearths$Shelf" "top" "I", Cond.fieldLink RX1 18 "PeatHearths$Shelf" "most" "I", Cond.fieldLink RX1 30 "PeatHearths$Shelf" "many" "I", Cond.methodLink RX1 9 Lib.Math.min.name, Cond.static Lib.Math.min.name, Cond.initialized "java/lang/Math", Cond.code Lib.Math.min.name Lib.Math.min.code 2 (some .int), Cond.fieldLink RX1 26 "PeatHearths$Shelf" "rows" "[I", Cond.methodLink RX1 36 yX1_isInside, Cond.instanceMethod yX1_isInside, Cond.selects RX1 yX1_isInside yX1_isInside, Cond.code yX1_isInside cX1_isInside 2 (some .boolean), Cond.methodLink RX1 40 yX0_at, Cond.instanceMethod yX0_at, Cond.selects RX0 yX0_at yX0_at, Cond.initialized RX0, Cond.code yX0_at cX0_at 2 (some .int), Cond.fieldLink RX0 11 "PeatHearths$Land" "row" "[I", Cond.methodLink RX3 50 yX0_put, Cond.instanceMethod yX0_put, Cond.selects RX0 yX0_put yX0_put]
def wsL_hearth_r3 : List Cond := [Cond.code yX0_put cX0_put 3 none, Cond.methodLink RX3 53 yX0_swap, Cond.instanceMethod yX0_swap, Cond.selects RX0 yX0_swap yX0_swap, Cond.code yX0_swap cX0_swap 4 (some .int), Cond.methodLink RX0 30 yX0_at, Cond.methodLink RX0 15 yX0_put]
def wsL_hearth : List Cond := .codeWith yL_hearth cL_hearth 6 (some .int) [(0, 12, 15, 13), (0, 12, 19, 15)] :: ((wsL_hearth_r1 ++ (wsL_hearth_r2 ++ wsL_hearth_r3)) ++ wsX30 ++ wsX10 ++ wsX00 ++ (vx_atS RX3 228 "java/lang/IndexOutOfBoundsException" ["java/lang/RuntimeException", "java/lang/Exception"]).filter goodWord ++ (vx_atS RX3 235 "java/lang/IllegalArgumentException" ["java/lang/RuntimeException", "java/lang/Exception"]).filter goodWord)
def wsL_track_r1 : List Cond := [Cond.classLink RL 13 "java/lang/IndexOutOfBoundsException", Cond.classLink RL 15 "java/lang/IllegalArgumentException", Cond.methodLink RL 17 yX3_track, Cond.instanceMethod yX3_track, Cond.selects RX3 yX3_track yX3_track, Cond.initialized RX3, Cond.code yX3_track cX3_track 3 (some .int), Cond.fieldLink RX3 24 "PeatHearths" "saved" "LPeatHearths$Shelf;", Cond.fieldLink RX3 12 "PeatHearths" "land" "LPeatHearths$Land;", Cond.methodLink RX3 38 yX3_requireIndex, Cond.static yX3_requireIndex, Cond.code yX3_requireIndex cX3_requireIndex 2 none, Cond.classLink RX3 224 "java/lang/IndexOutOfBoundsException", Cond.initialized "java/lang/IndexOutOfBoundsException", Cond.methodLink RX3 42 yX3_requireRange, Cond.static yX3_requireRange, Cond.code yX3_requireRange cX3_requireRange 3 none, Cond.methodLink RX3 80 yX3_requireArgument, Cond.static yX3_requireArgument, Cond.code yX3_requireArgument cX3_requireArgument 1 none, Cond.classLink RX3 231 "java/lang/IllegalArgumentException", Cond.initialized "java/lang/IllegalArgumentException", Cond.methodLink RX3 46 yX1_push, Cond.instanceMethod yX1_push]
def wsL_track_r2 : List Cond := [Cond.selects RX1 yX1_push yX1_push, Cond.initialized RX1, Cond.code yX1_push cX1_push 4 none, Cond.fieldLink RX1 33 "PeatHearths$Shelf" "top" "I", Cond.fieldLink RX1 18 "PeatHearths$Shelf" "most" "I", Cond.fieldLink RX1 30 "PeatHearths$Shelf" "many" "I", Cond.methodLink RX1 9 Lib.Math.min.name, Cond.static Lib.Math.min.name, Cond.initialized "java/lang/Math", Cond.code Lib.Math.min.name Lib.Math.min.code 2 (some .int), Cond.fieldLink RX1 26 "PeatHearths$Shelf" "rows" "[I", Cond.methodLink RX1 36 yX1_isInside, Cond.instanceMethod yX1_isInside, Cond.selects RX1 yX1_isInside yX1_isInside, Cond.code yX1_isInside cX1_isInside 2 (some .boolean), Cond.methodLink RX1 40 yX0_at, Cond.instanceMethod yX0_at, Cond.selects RX0 yX0_at yX0_at, Cond.initialized RX0, Cond.code yX0_at cX0_at 2 (some .int), Cond.fieldLink RX0 11 "PeatHearths$Land" "row" "[I", Cond.methodLink RX3 53 yX0_swap, Cond.instanceMethod yX0_swap, Cond.selects RX0 yX0_swap yX0_swap]
def wsL_track_r3 : List Cond := [Cond.code yX0_swap cX0_swap 4 (some .int), Cond.methodLink RX0 30 yX0_at, Cond.methodLink RX0 15 yX0_put, Cond.instanceMethod yX0_put, Cond.selects RX0 yX0_put yX0_put, Cond.code yX0_put cX0_put 3 none]
def wsL_track : List Cond := .codeWith yL_track cL_track 5 (some .int) [(0, 10, 13, 13), (0, 10, 17, 15)] :: ((wsL_track_r1 ++ (wsL_track_r2 ++ wsL_track_r3)) ++ wsX30 ++ wsX10 ++ wsX00 ++ (vx_atS RX3 228 "java/lang/IndexOutOfBoundsException" ["java/lang/RuntimeException", "java/lang/Exception"]).filter goodWord ++ (vx_atS RX3 235 "java/lang/IllegalArgumentException" ["java/lang/RuntimeException", "java/lang/Exception"]).filter goodWord)
def wsL_strength_r1 : List Cond := [Cond.classLink RL 13 "java/lang/IndexOutOfBoundsException", Cond.classLink RL 15 "java/lang/IllegalArgumentException", Cond.methodLink RL 21 yX3_strength, Cond.instanceMethod yX3_strength, Cond.selects RX3 yX3_strength yX3_strength, Cond.initialized RX3, Cond.code yX3_strength cX3_strength 3 (some .int), Cond.fieldLink RX3 24 "PeatHearths" "saved" "LPeatHearths$Shelf;", Cond.fieldLink RX3 12 "PeatHearths" "land" "LPeatHearths$Land;", Cond.methodLink RX3 38 yX3_requireIndex, Cond.static yX3_requireIndex, Cond.code yX3_requireIndex cX3_requireIndex 2 none, Cond.classLink RX3 224 "java/lang/IndexOutOfBoundsException", Cond.initialized "java/lang/IndexOutOfBoundsException", Cond.methodLink RX3 42 yX3_requireRange, Cond.static yX3_requireRange, Cond.code yX3_requireRange cX3_requireRange 3 none, Cond.methodLink RX3 80 yX3_requireArgument, Cond.static yX3_requireArgument, Cond.code yX3_requireArgument cX3_requireArgument 1 none, Cond.classLink RX3 231 "java/lang/IllegalArgumentException", Cond.initialized "java/lang/IllegalArgumentException", Cond.methodLink RX3 46 yX1_push, Cond.instanceMethod yX1_push]
def wsL_strength_r2 : List Cond := [Cond.selects RX1 yX1_push yX1_push, Cond.initialized RX1, Cond.code yX1_push cX1_push 4 none, Cond.fieldLink RX1 33 "PeatHearths$Shelf" "top" "I", Cond.fieldLink RX1 18 "PeatHearths$Shelf" "most" "I", Cond.fieldLink RX1 30 "PeatHearths$Shelf" "many" "I", Cond.methodLink RX1 9 Lib.Math.min.name, Cond.static Lib.Math.min.name, Cond.initialized "java/lang/Math", Cond.code Lib.Math.min.name Lib.Math.min.code 2 (some .int), Cond.fieldLink RX1 26 "PeatHearths$Shelf" "rows" "[I", Cond.methodLink RX1 36 yX1_isInside, Cond.instanceMethod yX1_isInside, Cond.selects RX1 yX1_isInside yX1_isInside, Cond.code yX1_isInside cX1_isInside 2 (some .boolean), Cond.methodLink RX1 40 yX0_at, Cond.instanceMethod yX0_at, Cond.selects RX0 yX0_at yX0_at, Cond.initialized RX0, Cond.code yX0_at cX0_at 2 (some .int), Cond.fieldLink RX0 11 "PeatHearths$Land" "row" "[I", Cond.methodLink RX3 53 yX0_swap, Cond.instanceMethod yX0_swap, Cond.selects RX0 yX0_swap yX0_swap]
def wsL_strength_r3 : List Cond := [Cond.code yX0_swap cX0_swap 4 (some .int), Cond.methodLink RX0 30 yX0_at, Cond.methodLink RX0 15 yX0_put, Cond.instanceMethod yX0_put, Cond.selects RX0 yX0_put yX0_put, Cond.code yX0_put cX0_put 3 none]
def wsL_strength : List Cond := .codeWith yL_strength cL_strength 5 (some .int) [(0, 10, 13, 13), (0, 10, 17, 15)] :: ((wsL_strength_r1 ++ (wsL_strength_r2 ++ wsL_strength_r3)) ++ wsX30 ++ wsX10 ++ wsX00 ++ (vx_atS RX3 228 "java/lang/IndexOutOfBoundsException" ["java/lang/RuntimeException", "java/lang/Exception"]).filter goodWord ++ (vx_atS RX3 235 "java/lang/IllegalArgumentException" ["java/lang/RuntimeException", "java/lang/Exception"]).filter goodWord)
def wsL_work_r1 : List Cond := [Cond.classLink RL 13 "java/lang/IndexOutOfBoundsException", Cond.classLink RL 28 "java/lang/IllegalStateException", Cond.methodLink RL 24 yX3_work, Cond.instanceMethod yX3_work, Cond.selects RX3 yX3_work yX3_work, Cond.initialized RX3, Cond.code yX3_work cX3_work 4 (some .int), Cond.fieldLink RX3 12 "PeatHearths" "land" "LPeatHearths$Land;", Cond.fieldLink RX3 24 "PeatHearths" "saved" "LPeatHearths$Shelf;", Cond.methodLink RX3 38 yX3_requireIndex, Cond.static yX3_requireIndex, Cond.code yX3_requireIndex cX3_requireIndex 2 none, Cond.classLink RX3 224 "java/lang/IndexOutOfBoundsException", Cond.initialized "java/lang/IndexOutOfBoundsException", Cond.methodLink RX3 57 yX0_reasonAgainst, Cond.instanceMethod yX0_reasonAgainst, Cond.selects RX0 yX0_reasonAgainst yX0_reasonAgainst, Cond.initialized RX0, Cond.code yX0_reasonAgainst cX0_reasonAgainst 4 (some .int), Cond.methodLink RX0 19 yX0_plotOf, Cond.static yX0_plotOf, Cond.code yX0_plotOf cX0_plotOf 2 (some .int), Cond.methodLink RX0 30 yX0_at, Cond.instanceMethod yX0_at]
def wsL_work_r2 : List Cond := [Cond.selects RX0 yX0_at yX0_at, Cond.code yX0_at cX0_at 2 (some .int), Cond.fieldLink RX0 11 "PeatHearths$Land" "row" "[I", Cond.methodLink RX0 34 yX0_cuttersAt, Cond.instanceMethod yX0_cuttersAt, Cond.selects RX0 yX0_cuttersAt yX0_cuttersAt, Cond.code yX0_cuttersAt cX0_cuttersAt 5 (some .int), Cond.methodLink RX3 60 yX3_requireState, Cond.static yX3_requireState, Cond.code yX3_requireState cX3_requireState 1 none, Cond.classLink RX3 236 "java/lang/IllegalStateException", Cond.initialized "java/lang/IllegalStateException", Cond.methodLink RX3 46 yX1_push, Cond.instanceMethod yX1_push, Cond.selects RX1 yX1_push yX1_push, Cond.initialized RX1, Cond.code yX1_push cX1_push 4 none, Cond.fieldLink RX1 33 "PeatHearths$Shelf" "top" "I", Cond.fieldLink RX1 18 "PeatHearths$Shelf" "most" "I", Cond.fieldLink RX1 30 "PeatHearths$Shelf" "many" "I", Cond.methodLink RX1 9 Lib.Math.min.name, Cond.static Lib.Math.min.name, Cond.initialized "java/lang/Math", Cond.code Lib.Math.min.name Lib.Math.min.code 2 (some .int)]
def wsL_work_r3 : List Cond := [Cond.fieldLink RX1 26 "PeatHearths$Shelf" "rows" "[I", Cond.methodLink RX1 36 yX1_isInside, Cond.instanceMethod yX1_isInside, Cond.selects RX1 yX1_isInside yX1_isInside, Cond.code yX1_isInside cX1_isInside 2 (some .boolean), Cond.methodLink RX1 40 yX0_at, Cond.methodLink RX3 64 yX0_setToWork, Cond.instanceMethod yX0_setToWork, Cond.selects RX0 yX0_setToWork yX0_setToWork, Cond.code yX0_setToWork cX0_setToWork 4 none, Cond.methodLink RX0 15 yX0_put, Cond.instanceMethod yX0_put, Cond.selects RX0 yX0_put yX0_put, Cond.code yX0_put cX0_put 3 none, Cond.methodLink RX3 67 yX0_cuttersAt]
def wsL_work : List Cond := .codeWith yL_work cL_work 6 (some .int) [(0, 12, 15, 13), (0, 12, 19, 28)] :: ((wsL_work_r1 ++ (wsL_work_r2 ++ wsL_work_r3)) ++ wsX30 ++ wsX00 ++ wsX10 ++ (vx_atS RX3 228 "java/lang/IndexOutOfBoundsException" ["java/lang/RuntimeException", "java/lang/Exception"]).filter goodWord ++ (vx_atS RX3 240 "java/lang/IllegalStateException" ["java/lang/RuntimeException", "java/lang/Exception"]).filter goodWord)
def wsL_rest_r1 : List Cond := [Cond.classLink RL 13 "java/lang/IndexOutOfBoundsException", Cond.methodLink RL 30 yX3_rest, Cond.instanceMethod yX3_rest, Cond.selects RX3 yX3_rest yX3_rest, Cond.initialized RX3, Cond.code yX3_rest cX3_rest 2 (some .int), Cond.fieldLink RX3 24 "PeatHearths" "saved" "LPeatHearths$Shelf;", Cond.fieldLink RX3 12 "PeatHearths" "land" "LPeatHearths$Land;", Cond.methodLink RX3 38 yX3_requireIndex, Cond.static yX3_requireIndex, Cond.code yX3_requireIndex cX3_requireIndex 2 none, Cond.classLink RX3 224 "java/lang/IndexOutOfBoundsException", Cond.initialized "java/lang/IndexOutOfBoundsException", Cond.methodLink RX3 46 yX1_push, Cond.instanceMethod yX1_push, Cond.selects RX1 yX1_push yX1_push, Cond.initialized RX1, Cond.code yX1_push cX1_push 4 none, Cond.fieldLink RX1 33 "PeatHearths$Shelf" "top" "I", Cond.fieldLink RX1 18 "PeatHearths$Shelf" "most" "I", Cond.fieldLink RX1 30 "PeatHearths$Shelf" "many" "I", Cond.methodLink RX1 9 Lib.Math.min.name, Cond.static Lib.Math.min.name, Cond.initialized "java/lang/Math"]
def wsL_rest_r2 : List Cond := [Cond.code Lib.Math.min.name Lib.Math.min.code 2 (some .int), Cond.fieldLink RX1 26 "PeatHearths$Shelf" "rows" "[I", Cond.methodLink RX1 36 yX1_isInside, Cond.instanceMethod yX1_isInside, Cond.selects RX1 yX1_isInside yX1_isInside, Cond.code yX1_isInside cX1_isInside 2 (some .boolean), Cond.methodLink RX1 40 yX0_at, Cond.instanceMethod yX0_at, Cond.selects RX0 yX0_at yX0_at, Cond.initialized RX0, Cond.code yX0_at cX0_at 2 (some .int), Cond.fieldLink RX0 11 "PeatHearths$Land" "row" "[I", Cond.methodLink RX3 70 yX0_letRest, Cond.instanceMethod yX0_letRest, Cond.selects RX0 yX0_letRest yX0_letRest, Cond.code yX0_letRest cX0_letRest 2 none, Cond.methodLink RX0 40 yX0_setToWork, Cond.instanceMethod yX0_setToWork, Cond.selects RX0 yX0_setToWork yX0_setToWork, Cond.code yX0_setToWork cX0_setToWork 4 none, Cond.methodLink RX0 15 yX0_put, Cond.instanceMethod yX0_put, Cond.selects RX0 yX0_put yX0_put, Cond.code yX0_put cX0_put 3 none]
def wsL_rest_r3 : List Cond := [Cond.methodLink RX3 73 yX0_cuttersAtWork, Cond.instanceMethod yX0_cuttersAtWork, Cond.selects RX0 yX0_cuttersAtWork yX0_cuttersAtWork, Cond.code yX0_cuttersAtWork cX0_cuttersAtWork 3 (some .int), Cond.methodLink RX0 37 yX0_cuttersOnBank, Cond.instanceMethod yX0_cuttersOnBank, Cond.selects RX0 yX0_cuttersOnBank yX0_cuttersOnBank, Cond.code yX0_cuttersOnBank cX0_cuttersOnBank 4 (some .int), Cond.methodLink RX0 34 yX0_cuttersAt, Cond.instanceMethod yX0_cuttersAt, Cond.selects RX0 yX0_cuttersAt yX0_cuttersAt, Cond.code yX0_cuttersAt cX0_cuttersAt 5 (some .int), Cond.methodLink RX0 30 yX0_at]
def wsL_rest : List Cond := .codeWith yL_rest cL_rest 4 (some .int) [(0, 9, 12, 13)] :: ((wsL_rest_r1 ++ (wsL_rest_r2 ++ wsL_rest_r3)) ++ wsX30 ++ wsX10 ++ wsX00 ++ (vx_atS RX3 228 "java/lang/IndexOutOfBoundsException" ["java/lang/RuntimeException", "java/lang/Exception"]).filter goodWord)
def wsL_give_r1 : List Cond := [Cond.classLink RL 13 "java/lang/IndexOutOfBoundsException", Cond.classLink RL 15 "java/lang/IllegalArgumentException", Cond.classLink RL 28 "java/lang/IllegalStateException", Cond.methodLink RL 34 yX3_give, Cond.instanceMethod yX3_give, Cond.selects RX3 yX3_give yX3_give, Cond.initialized RX3, Cond.code yX3_give cX3_give 7 (some .int), Cond.fieldLink RX3 12 "PeatHearths" "land" "LPeatHearths$Land;", Cond.fieldLink RX3 24 "PeatHearths" "saved" "LPeatHearths$Shelf;", Cond.methodLink RX3 77 yX3_requireHolder, Cond.static yX3_requireHolder, Cond.code yX3_requireHolder cX3_requireHolder 1 none, Cond.methodLink RX3 38 yX3_requireIndex, Cond.static yX3_requireIndex, Cond.code yX3_requireIndex cX3_requireIndex 2 none, Cond.classLink RX3 224 "java/lang/IndexOutOfBoundsException", Cond.initialized "java/lang/IndexOutOfBoundsException", Cond.methodLink RX3 42 yX3_requireRange, Cond.static yX3_requireRange, Cond.code yX3_requireRange cX3_requireRange 3 none, Cond.methodLink RX3 80 yX3_requireArgument, Cond.static yX3_requireArgument, Cond.code yX3_requireArgument cX3_requireArgument 1 none]
def wsL_give_r2 : List Cond := [Cond.classLink RX3 231 "java/lang/IllegalArgumentException", Cond.initialized "java/lang/IllegalArgumentException", Cond.methodLink RX3 83 yX0_sharesPlace, Cond.static yX0_sharesPlace, Cond.initialized RX0, Cond.code yX0_sharesPlace cX0_sharesPlace 2 (some .int), Cond.methodLink RX0 19 yX0_plotOf, Cond.static yX0_plotOf, Cond.code yX0_plotOf cX0_plotOf 2 (some .int), Cond.methodLink RX3 86 yX0_at, Cond.instanceMethod yX0_at, Cond.selects RX0 yX0_at yX0_at, Cond.code yX0_at cX0_at 2 (some .int), Cond.fieldLink RX0 11 "PeatHearths$Land" "row" "[I", Cond.methodLink RX3 60 yX3_requireState, Cond.static yX3_requireState, Cond.code yX3_requireState cX3_requireState 1 none, Cond.classLink RX3 236 "java/lang/IllegalStateException", Cond.initialized "java/lang/IllegalStateException", Cond.methodLink RX3 46 yX1_push, Cond.instanceMethod yX1_push, Cond.selects RX1 yX1_push yX1_push, Cond.initialized RX1, Cond.code yX1_push cX1_push 4 none]
def wsL_give_r3 : List Cond := [Cond.fieldLink RX1 33 "PeatHearths$Shelf" "top" "I", Cond.fieldLink RX1 18 "PeatHearths$Shelf" "most" "I", Cond.fieldLink RX1 30 "PeatHearths$Shelf" "many" "I", Cond.methodLink RX1 9 Lib.Math.min.name, Cond.static Lib.Math.min.name, Cond.initialized "java/lang/Math", Cond.code Lib.Math.min.name Lib.Math.min.code 2 (some .int), Cond.fieldLink RX1 26 "PeatHearths$Shelf" "rows" "[I", Cond.methodLink RX1 36 yX1_isInside, Cond.instanceMethod yX1_isInside, Cond.selects RX1 yX1_isInside yX1_isInside, Cond.code yX1_isInside cX1_isInside 2 (some .boolean), Cond.methodLink RX1 40 yX0_at, Cond.methodLink RX3 90 yX0_add, Cond.instanceMethod yX0_add, Cond.selects RX0 yX0_add yX0_add, Cond.code yX0_add cX0_add 3 none, Cond.methodLink RX0 30 yX0_at, Cond.methodLink RX0 15 yX0_put, Cond.instanceMethod yX0_put, Cond.selects RX0 yX0_put yX0_put, Cond.code yX0_put cX0_put 3 none]
def wsL_give : List Cond := .codeWith yL_give cL_give 7 (some .int) [(0, 14, 17, 13), (0, 14, 21, 15), (0, 14, 25, 28)] :: ((wsL_give_r1 ++ (wsL_give_r2 ++ wsL_give_r3)) ++ wsX30 ++ wsX00 ++ wsX10 ++ (vx_atS RX3 228 "java/lang/IndexOutOfBoundsException" ["java/lang/RuntimeException", "java/lang/Exception"]).filter goodWord ++ (vx_atS RX3 235 "java/lang/IllegalArgumentException" ["java/lang/RuntimeException", "java/lang/Exception"]).filter goodWord ++ (vx_atS RX3 240 "java/lang/IllegalStateException" ["java/lang/RuntimeException", "java/lang/Exception"]).filter goodWord)
def wsL_pass_r1 : List Cond := [Cond.classLink RL 15 "java/lang/IllegalArgumentException", Cond.methodLink RL 38 yX3_pass, Cond.instanceMethod yX3_pass, Cond.selects RX3 yX3_pass yX3_pass, Cond.initialized RX3, Cond.code yX3_pass cX3_pass 2 (some .int), Cond.fieldLink RX3 24 "PeatHearths" "saved" "LPeatHearths$Shelf;", Cond.fieldLink RX3 12 "PeatHearths" "land" "LPeatHearths$Land;", Cond.methodLink RX3 42 yX3_requireRange, Cond.static yX3_requireRange, Cond.code yX3_requireRange cX3_requireRange 3 none, Cond.methodLink RX3 80 yX3_requireArgument, Cond.static yX3_requireArgument, Cond.code yX3_requireArgument cX3_requireArgument 1 none, Cond.classLink RX3 231 "java/lang/IllegalArgumentException", Cond.initialized "java/lang/IllegalArgumentException", Cond.methodLink RX3 46 yX1_push, Cond.instanceMethod yX1_push, Cond.selects RX1 yX1_push yX1_push, Cond.initialized RX1, Cond.code yX1_push cX1_push 4 none, Cond.fieldLink RX1 33 "PeatHearths$Shelf" "top" "I", Cond.fieldLink RX1 18 "PeatHearths$Shelf" "most" "I", Cond.fieldLink RX1 30 "PeatHearths$Shelf" "many" "I"]
def wsL_pass_r2 : List Cond := [Cond.methodLink RX1 9 Lib.Math.min.name, Cond.static Lib.Math.min.name, Cond.initialized "java/lang/Math", Cond.code Lib.Math.min.name Lib.Math.min.code 2 (some .int), Cond.fieldLink RX1 26 "PeatHearths$Shelf" "rows" "[I", Cond.methodLink RX1 36 yX1_isInside, Cond.instanceMethod yX1_isInside, Cond.selects RX1 yX1_isInside yX1_isInside, Cond.code yX1_isInside cX1_isInside 2 (some .boolean), Cond.methodLink RX1 40 yX0_at, Cond.instanceMethod yX0_at, Cond.selects RX0 yX0_at yX0_at, Cond.initialized RX0, Cond.code yX0_at cX0_at 2 (some .int), Cond.fieldLink RX0 11 "PeatHearths$Land" "row" "[I", Cond.methodLink RX3 96 yX0_passDays, Cond.instanceMethod yX0_passDays, Cond.selects RX0 yX0_passDays yX0_passDays, Cond.code yX0_passDays cX0_passDays 4 (some .int), Cond.methodLink RX0 23 yX0_add, Cond.instanceMethod yX0_add, Cond.selects RX0 yX0_add yX0_add, Cond.code yX0_add cX0_add 3 none, Cond.methodLink RX0 30 yX0_at]
def wsL_pass_r3 : List Cond := [Cond.methodLink RX0 15 yX0_put, Cond.instanceMethod yX0_put, Cond.selects RX0 yX0_put yX0_put, Cond.code yX0_put cX0_put 3 none, Cond.methodLink RX0 49 yX0_weather, Cond.instanceMethod yX0_weather, Cond.selects RX0 yX0_weather yX0_weather, Cond.code yX0_weather cX0_weather 3 none, Cond.methodLink RX0 68 yX0_turvesOn, Cond.instanceMethod yX0_turvesOn, Cond.selects RX0 yX0_turvesOn yX0_turvesOn, Cond.code yX0_turvesOn cX0_turvesOn 7 (some .int), Cond.methodLink RX0 72 yX0_wetAgain, Cond.instanceMethod yX0_wetAgain, Cond.selects RX0 yX0_wetAgain yX0_wetAgain, Cond.code yX0_wetAgain cX0_wetAgain 4 none, Cond.methodLink RX0 78 yX0_halfRoundedUp, Cond.static yX0_halfRoundedUp, Cond.code yX0_halfRoundedUp cX0_halfRoundedUp 1 (some .int), Cond.methodLink RX0 75 yX0_dryOut, Cond.instanceMethod yX0_dryOut, Cond.selects RX0 yX0_dryOut yX0_dryOut, Cond.code yX0_dryOut cX0_dryOut 5 none, Cond.methodLink RX0 65 Lib.Math.min.name]
def wsL_pass_r4 : List Cond := [Cond.methodLink RX0 52 yX0_burn, Cond.instanceMethod yX0_burn, Cond.selects RX0 yX0_burn yX0_burn, Cond.code yX0_burn cX0_burn 4 none, Cond.methodLink RX0 55 yX0_cutTurves, Cond.instanceMethod yX0_cutTurves, Cond.selects RX0 yX0_cutTurves yX0_cutTurves, Cond.code yX0_cutTurves cX0_cutTurves 5 none, Cond.methodLink RX0 19 yX0_plotOf, Cond.static yX0_plotOf, Cond.code yX0_plotOf cX0_plotOf 2 (some .int), Cond.methodLink RX0 58 yX0_rainOf, Cond.instanceMethod yX0_rainOf, Cond.selects RX0 yX0_rainOf yX0_rainOf, Cond.code yX0_rainOf cX0_rainOf 2 (some .int), Cond.methodLink RX0 44 yJ9_floorMod_7cf53, Cond.static yJ9_floorMod_7cf53, Cond.initialized RJ9, Cond.code yJ9_floorMod_7cf53 cJ9_floorMod_7cf53 3 (some .int), Cond.methodLink RX0 61 yX0_goCarts, Cond.instanceMethod yX0_goCarts, Cond.selects RX0 yX0_goCarts yX0_goCarts, Cond.code yX0_goCarts cX0_goCarts 7 (some .int), Cond.methodLink RX0 81 yX0_cartHome]
def wsL_pass_r5 : List Cond := [Cond.instanceMethod yX0_cartHome, Cond.selects RX0 yX0_cartHome yX0_cartHome, Cond.code yX0_cartHome cX0_cartHome 7 (some .int), Cond.methodLink RX0 84 yX0_poorestWidow, Cond.instanceMethod yX0_poorestWidow, Cond.selects RX0 yX0_poorestWidow yX0_poorestWidow, Cond.code yX0_poorestWidow cX0_poorestWidow 3 (some .int)]
def wsL_pass : List Cond := .codeWith yL_pass cL_pass 4 (some .int) [(0, 9, 12, 15)] :: ((wsL_pass_r1 ++ (wsL_pass_r2 ++ (wsL_pass_r3 ++ (wsL_pass_r4 ++ wsL_pass_r5)))) ++ wsX30 ++ wsX10 ++ wsX00 ++ (vx_atS RX3 235 "java/lang/IllegalArgumentException" ["java/lang/RuntimeException", "java/lang/Exception"]).filter goodWord)
def wsL_set_r1 : List Cond := [Cond.classLink RL 13 "java/lang/IndexOutOfBoundsException", Cond.classLink RL 15 "java/lang/IllegalArgumentException", Cond.methodLink RL 41 yX3_set, Cond.instanceMethod yX3_set, Cond.selects RX3 yX3_set yX3_set, Cond.initialized RX3, Cond.code yX3_set cX3_set 3 (some .int), Cond.fieldLink RX3 99 "PeatHearths" "LOWEST_SETTING" "[I", Cond.fieldLink RX3 103 "PeatHearths" "HIGHEST_SETTING" "[I", Cond.fieldLink RX3 24 "PeatHearths" "saved" "LPeatHearths$Shelf;", Cond.fieldLink RX3 12 "PeatHearths" "land" "LPeatHearths$Land;", Cond.methodLink RX3 38 yX3_requireIndex, Cond.static yX3_requireIndex, Cond.code yX3_requireIndex cX3_requireIndex 2 none, Cond.classLink RX3 224 "java/lang/IndexOutOfBoundsException", Cond.initialized "java/lang/IndexOutOfBoundsException", Cond.methodLink RX3 42 yX3_requireRange, Cond.static yX3_requireRange, Cond.code yX3_requireRange cX3_requireRange 3 none, Cond.methodLink RX3 80 yX3_requireArgument, Cond.static yX3_requireArgument, Cond.code yX3_requireArgument cX3_requireArgument 1 none, Cond.classLink RX3 231 "java/lang/IllegalArgumentException", Cond.initialized "java/lang/IllegalArgumentException"]
def wsL_set_r2 : List Cond := [Cond.methodLink RX3 46 yX1_push, Cond.instanceMethod yX1_push, Cond.selects RX1 yX1_push yX1_push, Cond.initialized RX1, Cond.code yX1_push cX1_push 4 none, Cond.fieldLink RX1 33 "PeatHearths$Shelf" "top" "I", Cond.fieldLink RX1 18 "PeatHearths$Shelf" "most" "I", Cond.fieldLink RX1 30 "PeatHearths$Shelf" "many" "I", Cond.methodLink RX1 9 Lib.Math.min.name, Cond.static Lib.Math.min.name, Cond.initialized "java/lang/Math", Cond.code Lib.Math.min.name Lib.Math.min.code 2 (some .int), Cond.fieldLink RX1 26 "PeatHearths$Shelf" "rows" "[I", Cond.methodLink RX1 36 yX1_isInside, Cond.instanceMethod yX1_isInside, Cond.selects RX1 yX1_isInside yX1_isInside, Cond.code yX1_isInside cX1_isInside 2 (some .boolean), Cond.methodLink RX1 40 yX0_at, Cond.instanceMethod yX0_at, Cond.selects RX0 yX0_at yX0_at, Cond.initialized RX0, Cond.code yX0_at cX0_at 2 (some .int), Cond.fieldLink RX0 11 "PeatHearths$Land" "row" "[I", Cond.methodLink RX3 53 yX0_swap]
def wsL_set_r3 : List Cond := [Cond.instanceMethod yX0_swap, Cond.selects RX0 yX0_swap yX0_swap, Cond.code yX0_swap cX0_swap 4 (some .int), Cond.methodLink RX0 30 yX0_at, Cond.methodLink RX0 15 yX0_put, Cond.instanceMethod yX0_put, Cond.selects RX0 yX0_put yX0_put, Cond.code yX0_put cX0_put 3 none]
def wsL_set : List Cond := .codeWith yL_set cL_set 5 (some .int) [(0, 10, 13, 13), (0, 10, 17, 15)] :: ((wsL_set_r1 ++ (wsL_set_r2 ++ wsL_set_r3)) ++ wsX30 ++ wsX10 ++ wsX00 ++ (vx_atS RX3 228 "java/lang/IndexOutOfBoundsException" ["java/lang/RuntimeException", "java/lang/Exception"]).filter goodWord ++ (vx_atS RX3 235 "java/lang/IllegalArgumentException" ["java/lang/RuntimeException", "java/lang/Exception"]).filter goodWord)
def wsL_append_r1 : List Cond := [Cond.classLink RL 15 "java/lang/IllegalArgumentException", Cond.classLink RL 28 "java/lang/IllegalStateException", Cond.methodLink RL 44 yX3_append, Cond.instanceMethod yX3_append, Cond.selects RX3 yX3_append yX3_append, Cond.initialized RX3, Cond.code yX3_append cX3_append 2 (some .int), Cond.fieldLink RX3 34 "PeatHearths" "text" "LPeatHearths$Text;", Cond.methodLink RX3 42 yX3_requireRange, Cond.static yX3_requireRange, Cond.code yX3_requireRange cX3_requireRange 3 none, Cond.methodLink RX3 80 yX3_requireArgument, Cond.static yX3_requireArgument, Cond.code yX3_requireArgument cX3_requireArgument 1 none, Cond.classLink RX3 231 "java/lang/IllegalArgumentException", Cond.initialized "java/lang/IllegalArgumentException", Cond.methodLink RX3 106 yX2_length, Cond.instanceMethod yX2_length, Cond.selects RX2 yX2_length yX2_length, Cond.initialized RX2, Cond.code yX2_length cX2_length 1 (some .int), Cond.fieldLink RX2 15 "PeatHearths$Text" "length" "I", Cond.methodLink RX3 60 yX3_requireState, Cond.static yX3_requireState]
def wsL_append_r2 : List Cond := [Cond.code yX3_requireState cX3_requireState 1 none, Cond.classLink RX3 236 "java/lang/IllegalStateException", Cond.initialized "java/lang/IllegalStateException", Cond.methodLink RX3 109 yX2_push, Cond.instanceMethod yX2_push, Cond.selects RX2 yX2_push yX2_push, Cond.code yX2_push cX2_push 2 none, Cond.fieldLink RX2 9 "PeatHearths$Text" "signs" "[C"]
def wsL_append : List Cond := .codeWith yL_append cL_append 4 (some .int) [(0, 9, 12, 15), (0, 9, 15, 28)] :: ((wsL_append_r1 ++ wsL_append_r2) ++ wsX30 ++ wsX20 ++ (vx_atS RX3 235 "java/lang/IllegalArgumentException" ["java/lang/RuntimeException", "java/lang/Exception"]).filter goodWord ++ (vx_atS RX3 240 "java/lang/IllegalStateException" ["java/lang/RuntimeException", "java/lang/Exception"]).filter goodWord)
def wsL_play_r1 : List Cond := [Cond.classLink RL 15 "java/lang/IllegalArgumentException", Cond.methodLink RL 47 yX3_play, Cond.instanceMethod yX3_play, Cond.selects RX3 yX3_play yX3_play, Cond.initialized RX3, Cond.code yX3_play cX3_play 3 (some .int), Cond.fieldLink RX3 34 "PeatHearths" "text" "LPeatHearths$Text;", Cond.fieldLink RX3 24 "PeatHearths" "saved" "LPeatHearths$Shelf;", Cond.fieldLink RX3 12 "PeatHearths" "land" "LPeatHearths$Land;", Cond.methodLink RX3 118 yX2_isComplete, Cond.instanceMethod yX2_isComplete, Cond.selects RX2 yX2_isComplete yX2_isComplete, Cond.initialized RX2, Cond.code yX2_isComplete cX2_isComplete 3 (some .boolean), Cond.fieldLink RX2 15 "PeatHearths$Text" "length" "I", Cond.methodLink RX2 19 yX2_signAt, Cond.instanceMethod yX2_signAt, Cond.selects RX2 yX2_signAt yX2_signAt, Cond.code yX2_signAt cX2_signAt 2 (some .char), Cond.fieldLink RX2 9 "PeatHearths$Text" "signs" "[C", Cond.methodLink RX2 23 yX2_readNext, Cond.static yX2_readNext, Cond.code yX2_readNext cX2_readNext 2 (some .int), Cond.methodLink RX2 27 yX2_endsPart]
def wsL_play_r2 : List Cond := [Cond.static yX2_endsPart, Cond.code yX2_endsPart cX2_endsPart 1 (some .boolean), Cond.methodLink RX2 35 yX2_beginPart, Cond.static yX2_beginPart, Cond.code yX2_beginPart cX2_beginPart 1 (some .int), Cond.methodLink RX2 31 yX2_isDigit, Cond.static yX2_isDigit, Cond.code yX2_isDigit cX2_isDigit 2 (some .boolean), Cond.methodLink RX2 39 yX2_beginDays, Cond.static yX2_beginDays, Cond.code yX2_beginDays cX2_beginDays 1 (some .int), Cond.methodLink RX3 80 yX3_requireArgument, Cond.static yX3_requireArgument, Cond.code yX3_requireArgument cX3_requireArgument 1 none, Cond.classLink RX3 231 "java/lang/IllegalArgumentException", Cond.initialized "java/lang/IllegalArgumentException", Cond.methodLink RX3 46 yX1_push, Cond.instanceMethod yX1_push, Cond.selects RX1 yX1_push yX1_push, Cond.initialized RX1, Cond.code yX1_push cX1_push 4 none, Cond.fieldLink RX1 33 "PeatHearths$Shelf" "top" "I", Cond.fieldLink RX1 18 "PeatHearths$Shelf" "most" "I", Cond.fieldLink RX1 30 "PeatHearths$Shelf" "many" "I"]
def wsL_play_r3 : List Cond := [Cond.methodLink RX1 9 Lib.Math.min.name, Cond.static Lib.Math.min.name, Cond.initialized "java/lang/Math", Cond.code Lib.Math.min.name Lib.Math.min.code 2 (some .int), Cond.fieldLink RX1 26 "PeatHearths$Shelf" "rows" "[I", Cond.methodLink RX1 36 yX1_isInside, Cond.instanceMethod yX1_isInside, Cond.selects RX1 yX1_isInside yX1_isInside, Cond.code yX1_isInside cX1_isInside 2 (some .boolean), Cond.methodLink RX1 40 yX0_at, Cond.instanceMethod yX0_at, Cond.selects RX0 yX0_at yX0_at, Cond.initialized RX0, Cond.code yX0_at cX0_at 2 (some .int), Cond.fieldLink RX0 11 "PeatHearths$Land" "row" "[I", Cond.methodLink RX3 106 yX2_length, Cond.instanceMethod yX2_length, Cond.selects RX2 yX2_length yX2_length, Cond.code yX2_length cX2_length 1 (some .int), Cond.methodLink RX3 122 yX2_isPartBegin, Cond.instanceMethod yX2_isPartBegin, Cond.selects RX2 yX2_isPartBegin yX2_isPartBegin, Cond.code yX2_isPartBegin cX2_isPartBegin 2 (some .boolean), Cond.methodLink RX3 126 yX3_playPart]
def wsL_play_r4 : List Cond := [Cond.instanceMethod yX3_playPart, Cond.selects RX3 yX3_playPart yX3_playPart, Cond.code yX3_playPart cX3_playPart 6 (some .boolean), Cond.methodLink RX3 211 yX2_signAt, Cond.methodLink RX3 221 yX2_numberAt, Cond.instanceMethod yX2_numberAt, Cond.selects RX2 yX2_numberAt yX2_numberAt, Cond.code yX2_numberAt cX2_numberAt 3 (some .int), Cond.methodLink RX3 57 yX0_reasonAgainst, Cond.instanceMethod yX0_reasonAgainst, Cond.selects RX0 yX0_reasonAgainst yX0_reasonAgainst, Cond.code yX0_reasonAgainst cX0_reasonAgainst 4 (some .int), Cond.methodLink RX0 19 yX0_plotOf, Cond.static yX0_plotOf, Cond.code yX0_plotOf cX0_plotOf 2 (some .int), Cond.methodLink RX0 30 yX0_at, Cond.methodLink RX0 34 yX0_cuttersAt, Cond.instanceMethod yX0_cuttersAt, Cond.selects RX0 yX0_cuttersAt yX0_cuttersAt, Cond.code yX0_cuttersAt cX0_cuttersAt 5 (some .int), Cond.methodLink RX3 64 yX0_setToWork, Cond.instanceMethod yX0_setToWork, Cond.selects RX0 yX0_setToWork yX0_setToWork, Cond.code yX0_setToWork cX0_setToWork 4 none]
def wsL_play_r5 : List Cond := [Cond.methodLink RX0 15 yX0_put, Cond.instanceMethod yX0_put, Cond.selects RX0 yX0_put yX0_put, Cond.code yX0_put cX0_put 3 none, Cond.methodLink RX3 70 yX0_letRest, Cond.instanceMethod yX0_letRest, Cond.selects RX0 yX0_letRest yX0_letRest, Cond.code yX0_letRest cX0_letRest 2 none, Cond.methodLink RX0 40 yX0_setToWork, Cond.methodLink RX3 96 yX0_passDays, Cond.instanceMethod yX0_passDays, Cond.selects RX0 yX0_passDays yX0_passDays, Cond.code yX0_passDays cX0_passDays 4 (some .int), Cond.methodLink RX0 23 yX0_add, Cond.instanceMethod yX0_add, Cond.selects RX0 yX0_add yX0_add, Cond.code yX0_add cX0_add 3 none, Cond.methodLink RX0 49 yX0_weather, Cond.instanceMethod yX0_weather, Cond.selects RX0 yX0_weather yX0_weather, Cond.code yX0_weather cX0_weather 3 none, Cond.methodLink RX0 68 yX0_turvesOn, Cond.instanceMethod yX0_turvesOn, Cond.selects RX0 yX0_turvesOn yX0_turvesOn]
def wsL_play_r6 : List Cond := [Cond.code yX0_turvesOn cX0_turvesOn 7 (some .int), Cond.methodLink RX0 72 yX0_wetAgain, Cond.instanceMethod yX0_wetAgain, Cond.selects RX0 yX0_wetAgain yX0_wetAgain, Cond.code yX0_wetAgain cX0_wetAgain 4 none, Cond.methodLink RX0 78 yX0_halfRoundedUp, Cond.static yX0_halfRoundedUp, Cond.code yX0_halfRoundedUp cX0_halfRoundedUp 1 (some .int), Cond.methodLink RX0 75 yX0_dryOut, Cond.instanceMethod yX0_dryOut, Cond.selects RX0 yX0_dryOut yX0_dryOut, Cond.code yX0_dryOut cX0_dryOut 5 none, Cond.methodLink RX0 65 Lib.Math.min.name, Cond.methodLink RX0 52 yX0_burn, Cond.instanceMethod yX0_burn, Cond.selects RX0 yX0_burn yX0_burn, Cond.code yX0_burn cX0_burn 4 none, Cond.methodLink RX0 55 yX0_cutTurves, Cond.instanceMethod yX0_cutTurves, Cond.selects RX0 yX0_cutTurves yX0_cutTurves, Cond.code yX0_cutTurves cX0_cutTurves 5 none, Cond.methodLink RX0 58 yX0_rainOf, Cond.instanceMethod yX0_rainOf, Cond.selects RX0 yX0_rainOf yX0_rainOf]
def wsL_play_r7 : List Cond := [Cond.code yX0_rainOf cX0_rainOf 2 (some .int), Cond.methodLink RX0 44 yJ9_floorMod_7cf53, Cond.static yJ9_floorMod_7cf53, Cond.initialized RJ9, Cond.code yJ9_floorMod_7cf53 cJ9_floorMod_7cf53 3 (some .int), Cond.methodLink RX0 61 yX0_goCarts, Cond.instanceMethod yX0_goCarts, Cond.selects RX0 yX0_goCarts yX0_goCarts, Cond.code yX0_goCarts cX0_goCarts 7 (some .int), Cond.methodLink RX0 81 yX0_cartHome, Cond.instanceMethod yX0_cartHome, Cond.selects RX0 yX0_cartHome yX0_cartHome, Cond.code yX0_cartHome cX0_cartHome 7 (some .int), Cond.methodLink RX0 84 yX0_poorestWidow, Cond.instanceMethod yX0_poorestWidow, Cond.selects RX0 yX0_poorestWidow yX0_poorestWidow, Cond.code yX0_poorestWidow cX0_poorestWidow 3 (some .int), Cond.methodLink RX3 93 yX0_turnSnow, Cond.instanceMethod yX0_turnSnow, Cond.selects RX0 yX0_turnSnow yX0_turnSnow, Cond.code yX0_turnSnow cX0_turnSnow 2 none, Cond.methodLink RX0 26 yX0_letRest, Cond.methodLink RX3 112 yX2_wipe, Cond.instanceMethod yX2_wipe]
def wsL_play_r8 : List Cond := [Cond.selects RX2 yX2_wipe yX2_wipe, Cond.code yX2_wipe cX2_wipe 1 none]
def wsL_play : List Cond := .codeWith yL_play cL_play 3 (some .int) [(0, 8, 11, 15)] :: ((wsL_play_r1 ++ (wsL_play_r2 ++ (wsL_play_r3 ++ (wsL_play_r4 ++ (wsL_play_r5 ++ (wsL_play_r6 ++ (wsL_play_r7 ++ wsL_play_r8))))))) ++ wsX30 ++ wsX20 ++ wsX10 ++ wsX00 ++ (vx_atS RX3 235 "java/lang/IllegalArgumentException" ["java/lang/RuntimeException", "java/lang/Exception"]).filter goodWord)
def wsL_undo_r1 : List Cond := [Cond.classLink RL 28 "java/lang/IllegalStateException", Cond.methodLink RL 51 yX3_undo, Cond.instanceMethod yX3_undo, Cond.selects RX3 yX3_undo yX3_undo, Cond.initialized RX3, Cond.code yX3_undo cX3_undo 1 (some .int), Cond.fieldLink RX3 24 "PeatHearths" "saved" "LPeatHearths$Shelf;", Cond.fieldLink RX3 12 "PeatHearths" "land" "LPeatHearths$Land;", Cond.methodLink RX3 129 yX1_size, Cond.instanceMethod yX1_size, Cond.selects RX1 yX1_size yX1_size, Cond.initialized RX1, Cond.code yX1_size cX1_size 1 (some .int), Cond.fieldLink RX1 30 "PeatHearths$Shelf" "many" "I", Cond.methodLink RX3 60 yX3_requireState, Cond.static yX3_requireState, Cond.code yX3_requireState cX3_requireState 1 none, Cond.classLink RX3 236 "java/lang/IllegalStateException", Cond.initialized "java/lang/IllegalStateException", Cond.methodLink RX3 132 yX1_showTop, Cond.instanceMethod yX1_showTop, Cond.selects RX1 yX1_showTop yX1_showTop, Cond.code yX1_showTop cX1_showTop 4 none, Cond.fieldLink RX1 33 "PeatHearths$Shelf" "top" "I"]
def wsL_undo_r2 : List Cond := [Cond.fieldLink RX1 26 "PeatHearths$Shelf" "rows" "[I", Cond.methodLink RX1 36 yX1_isInside, Cond.instanceMethod yX1_isInside, Cond.selects RX1 yX1_isInside yX1_isInside, Cond.code yX1_isInside cX1_isInside 2 (some .boolean), Cond.methodLink RX1 44 yX0_put, Cond.instanceMethod yX0_put, Cond.selects RX0 yX0_put yX0_put, Cond.initialized RX0, Cond.code yX0_put cX0_put 3 none, Cond.fieldLink RX0 11 "PeatHearths$Land" "row" "[I", Cond.methodLink RX3 135 yX1_dropTop, Cond.instanceMethod yX1_dropTop, Cond.selects RX1 yX1_dropTop yX1_dropTop, Cond.code yX1_dropTop cX1_dropTop 1 none, Cond.fieldLink RX1 18 "PeatHearths$Shelf" "most" "I", Cond.methodLink RX1 15 Lib.Math.max.name, Cond.static Lib.Math.max.name, Cond.initialized "java/lang/Math", Cond.code Lib.Math.max.name Lib.Math.max.code 2 (some .int)]
def wsL_undo : List Cond := .codeWith yL_undo cL_undo 3 (some .int) [(0, 8, 11, 28)] :: ((wsL_undo_r1 ++ wsL_undo_r2) ++ wsX30 ++ wsX10 ++ wsX00 ++ (vx_atS RX3 240 "java/lang/IllegalStateException" ["java/lang/RuntimeException", "java/lang/Exception"]).filter goodWord)
def wsL_restore_r1 : List Cond := [Cond.classLink RL 28 "java/lang/IllegalStateException", Cond.methodLink RL 54 yX3_restore, Cond.instanceMethod yX3_restore, Cond.selects RX3 yX3_restore yX3_restore, Cond.initialized RX3, Cond.code yX3_restore cX3_restore 1 (some .int), Cond.fieldLink RX3 28 "PeatHearths" "snapshot" "LPeatHearths$Shelf;", Cond.fieldLink RX3 24 "PeatHearths" "saved" "LPeatHearths$Shelf;", Cond.fieldLink RX3 12 "PeatHearths" "land" "LPeatHearths$Land;", Cond.methodLink RX3 129 yX1_size, Cond.instanceMethod yX1_size, Cond.selects RX1 yX1_size yX1_size, Cond.initialized RX1, Cond.code yX1_size cX1_size 1 (some .int), Cond.fieldLink RX1 30 "PeatHearths$Shelf" "many" "I", Cond.methodLink RX3 60 yX3_requireState, Cond.static yX3_requireState, Cond.code yX3_requireState cX3_requireState 1 none, Cond.classLink RX3 236 "java/lang/IllegalStateException", Cond.initialized "java/lang/IllegalStateException", Cond.methodLink RX3 46 yX1_push, Cond.instanceMethod yX1_push, Cond.selects RX1 yX1_push yX1_push, Cond.code yX1_push cX1_push 4 none]
def wsL_restore_r2 : List Cond := [Cond.fieldLink RX1 33 "PeatHearths$Shelf" "top" "I", Cond.fieldLink RX1 18 "PeatHearths$Shelf" "most" "I", Cond.methodLink RX1 9 Lib.Math.min.name, Cond.static Lib.Math.min.name, Cond.initialized "java/lang/Math", Cond.code Lib.Math.min.name Lib.Math.min.code 2 (some .int), Cond.fieldLink RX1 26 "PeatHearths$Shelf" "rows" "[I", Cond.methodLink RX1 36 yX1_isInside, Cond.instanceMethod yX1_isInside, Cond.selects RX1 yX1_isInside yX1_isInside, Cond.code yX1_isInside cX1_isInside 2 (some .boolean), Cond.methodLink RX1 40 yX0_at, Cond.instanceMethod yX0_at, Cond.selects RX0 yX0_at yX0_at, Cond.initialized RX0, Cond.code yX0_at cX0_at 2 (some .int), Cond.fieldLink RX0 11 "PeatHearths$Land" "row" "[I", Cond.methodLink RX3 132 yX1_showTop, Cond.instanceMethod yX1_showTop, Cond.selects RX1 yX1_showTop yX1_showTop, Cond.code yX1_showTop cX1_showTop 4 none, Cond.methodLink RX1 44 yX0_put, Cond.instanceMethod yX0_put, Cond.selects RX0 yX0_put yX0_put]
def wsL_restore_r3 : List Cond := [Cond.code yX0_put cX0_put 3 none, Cond.methodLink RX3 86 yX0_at]
def wsL_restore : List Cond := .codeWith yL_restore cL_restore 3 (some .int) [(0, 8, 11, 28)] :: ((wsL_restore_r1 ++ (wsL_restore_r2 ++ wsL_restore_r3)) ++ wsX30 ++ wsX10 ++ wsX00 ++ (vx_atS RX3 240 "java/lang/IllegalStateException" ["java/lang/RuntimeException", "java/lang/Exception"]).filter goodWord)
def wsL_hearthOf_r1 : List Cond := [Cond.classLink RL 13 "java/lang/IndexOutOfBoundsException", Cond.classLink RL 15 "java/lang/IllegalArgumentException", Cond.methodLink RL 57 yX3_hearthOf, Cond.instanceMethod yX3_hearthOf, Cond.selects RX3 yX3_hearthOf yX3_hearthOf, Cond.initialized RX3, Cond.code yX3_hearthOf cX3_hearthOf 3 (some .int), Cond.fieldLink RX3 12 "PeatHearths" "land" "LPeatHearths$Land;", Cond.methodLink RX3 38 yX3_requireIndex, Cond.static yX3_requireIndex, Cond.code yX3_requireIndex cX3_requireIndex 2 none, Cond.classLink RX3 224 "java/lang/IndexOutOfBoundsException", Cond.initialized "java/lang/IndexOutOfBoundsException", Cond.methodLink RX3 42 yX3_requireRange, Cond.static yX3_requireRange, Cond.code yX3_requireRange cX3_requireRange 3 none, Cond.methodLink RX3 80 yX3_requireArgument, Cond.static yX3_requireArgument, Cond.code yX3_requireArgument cX3_requireArgument 1 none, Cond.classLink RX3 231 "java/lang/IllegalArgumentException", Cond.initialized "java/lang/IllegalArgumentException", Cond.methodLink RX3 138 yX0_ofHearth, Cond.instanceMethod yX0_ofHearth, Cond.selects RX0 yX0_ofHearth yX0_ofHearth]
def wsL_hearthOf_r2 : List Cond := [Cond.initialized RX0, Cond.code yX0_ofHearth cX0_ofHearth 3 (some .int), Cond.methodLink RX0 30 yX0_at, Cond.instanceMethod yX0_at, Cond.selects RX0 yX0_at yX0_at, Cond.code yX0_at cX0_at 2 (some .int), Cond.fieldLink RX0 11 "PeatHearths$Land" "row" "[I", Cond.methodLink RX0 19 yX0_plotOf, Cond.static yX0_plotOf, Cond.code yX0_plotOf cX0_plotOf 2 (some .int), Cond.methodLink RX0 68 yX0_turvesOn, Cond.instanceMethod yX0_turvesOn, Cond.selects RX0 yX0_turvesOn yX0_turvesOn, Cond.code yX0_turvesOn cX0_turvesOn 7 (some .int), Cond.methodLink RX0 90 yX0_shortBy, Cond.instanceMethod yX0_shortBy, Cond.selects RX0 yX0_shortBy yX0_shortBy, Cond.code yX0_shortBy cX0_shortBy 2 (some .int), Cond.methodLink RX0 87 Lib.Math.max.name, Cond.static Lib.Math.max.name, Cond.initialized "java/lang/Math", Cond.code Lib.Math.max.name Lib.Math.max.code 2 (some .int), Cond.methodLink RX0 93 yX0_willBeShortBy, Cond.instanceMethod yX0_willBeShortBy]
def wsL_hearthOf_r3 : List Cond := [Cond.selects RX0 yX0_willBeShortBy yX0_willBeShortBy, Cond.code yX0_willBeShortBy cX0_willBeShortBy 2 (some .int), Cond.methodLink RX0 96 yX0_willBeShortByTheBook, Cond.instanceMethod yX0_willBeShortByTheBook, Cond.selects RX0 yX0_willBeShortByTheBook yX0_willBeShortByTheBook, Cond.code yX0_willBeShortByTheBook cX0_willBeShortByTheBook 4 (some .int)]
def wsL_hearthOf : List Cond := .codeWith yL_hearthOf cL_hearthOf 5 (some .int) [(0, 10, 13, 13), (0, 10, 17, 15)] :: ((wsL_hearthOf_r1 ++ (wsL_hearthOf_r2 ++ wsL_hearthOf_r3)) ++ wsX30 ++ wsX00 ++ (vx_atS RX3 228 "java/lang/IndexOutOfBoundsException" ["java/lang/RuntimeException", "java/lang/Exception"]).filter goodWord ++ (vx_atS RX3 235 "java/lang/IllegalArgumentException" ["java/lang/RuntimeException", "java/lang/Exception"]).filter goodWord)
def wsL_bankOf_r1 : List Cond := [Cond.classLink RL 13 "java/lang/IndexOutOfBoundsException", Cond.classLink RL 15 "java/lang/IllegalArgumentException", Cond.methodLink RL 60 yX3_bankOf, Cond.instanceMethod yX3_bankOf, Cond.selects RX3 yX3_bankOf yX3_bankOf, Cond.initialized RX3, Cond.code yX3_bankOf cX3_bankOf 3 (some .int), Cond.fieldLink RX3 12 "PeatHearths" "land" "LPeatHearths$Land;", Cond.methodLink RX3 38 yX3_requireIndex, Cond.static yX3_requireIndex, Cond.code yX3_requireIndex cX3_requireIndex 2 none, Cond.classLink RX3 224 "java/lang/IndexOutOfBoundsException", Cond.initialized "java/lang/IndexOutOfBoundsException", Cond.methodLink RX3 42 yX3_requireRange, Cond.static yX3_requireRange, Cond.code yX3_requireRange cX3_requireRange 3 none, Cond.methodLink RX3 80 yX3_requireArgument, Cond.static yX3_requireArgument, Cond.code yX3_requireArgument cX3_requireArgument 1 none, Cond.classLink RX3 231 "java/lang/IllegalArgumentException", Cond.initialized "java/lang/IllegalArgumentException", Cond.methodLink RX3 141 yX0_ofBank, Cond.instanceMethod yX0_ofBank, Cond.selects RX0 yX0_ofBank yX0_ofBank]
def wsL_bankOf_r2 : List Cond := [Cond.initialized RX0, Cond.code yX0_ofBank cX0_ofBank 3 (some .int), Cond.methodLink RX0 30 yX0_at, Cond.instanceMethod yX0_at, Cond.selects RX0 yX0_at yX0_at, Cond.code yX0_at cX0_at 2 (some .int), Cond.fieldLink RX0 11 "PeatHearths$Land" "row" "[I", Cond.methodLink RX0 37 yX0_cuttersOnBank, Cond.instanceMethod yX0_cuttersOnBank, Cond.selects RX0 yX0_cuttersOnBank yX0_cuttersOnBank, Cond.code yX0_cuttersOnBank cX0_cuttersOnBank 4 (some .int), Cond.methodLink RX0 34 yX0_cuttersAt, Cond.instanceMethod yX0_cuttersAt, Cond.selects RX0 yX0_cuttersAt yX0_cuttersAt, Cond.code yX0_cuttersAt cX0_cuttersAt 5 (some .int), Cond.methodLink RX0 19 yX0_plotOf, Cond.static yX0_plotOf, Cond.code yX0_plotOf cX0_plotOf 2 (some .int), Cond.methodLink RX0 68 yX0_turvesOn, Cond.instanceMethod yX0_turvesOn, Cond.selects RX0 yX0_turvesOn yX0_turvesOn, Cond.code yX0_turvesOn cX0_turvesOn 7 (some .int)]
def wsL_bankOf : List Cond := .codeWith yL_bankOf cL_bankOf 5 (some .int) [(0, 10, 13, 13), (0, 10, 17, 15)] :: ((wsL_bankOf_r1 ++ wsL_bankOf_r2) ++ wsX30 ++ wsX00 ++ (vx_atS RX3 228 "java/lang/IndexOutOfBoundsException" ["java/lang/RuntimeException", "java/lang/Exception"]).filter goodWord ++ (vx_atS RX3 235 "java/lang/IllegalArgumentException" ["java/lang/RuntimeException", "java/lang/Exception"]).filter goodWord)
def wsL_plot_r1 : List Cond := [Cond.classLink RL 13 "java/lang/IndexOutOfBoundsException", Cond.classLink RL 15 "java/lang/IllegalArgumentException", Cond.methodLink RL 63 yX3_plot, Cond.instanceMethod yX3_plot, Cond.selects RX3 yX3_plot yX3_plot, Cond.initialized RX3, Cond.code yX3_plot cX3_plot 4 (some .int), Cond.fieldLink RX3 12 "PeatHearths" "land" "LPeatHearths$Land;", Cond.methodLink RX3 38 yX3_requireIndex, Cond.static yX3_requireIndex, Cond.code yX3_requireIndex cX3_requireIndex 2 none, Cond.classLink RX3 224 "java/lang/IndexOutOfBoundsException", Cond.initialized "java/lang/IndexOutOfBoundsException", Cond.methodLink RX3 42 yX3_requireRange, Cond.static yX3_requireRange, Cond.code yX3_requireRange cX3_requireRange 3 none, Cond.methodLink RX3 80 yX3_requireArgument, Cond.static yX3_requireArgument, Cond.code yX3_requireArgument cX3_requireArgument 1 none, Cond.classLink RX3 231 "java/lang/IllegalArgumentException", Cond.initialized "java/lang/IllegalArgumentException", Cond.methodLink RX3 144 yX0_ofPlot, Cond.instanceMethod yX0_ofPlot, Cond.selects RX0 yX0_ofPlot yX0_ofPlot]
def wsL_plot_r2 : List Cond := [Cond.initialized RX0, Cond.code yX0_ofPlot cX0_ofPlot 5 (some .int), Cond.methodLink RX0 19 yX0_plotOf, Cond.static yX0_plotOf, Cond.code yX0_plotOf cX0_plotOf 2 (some .int), Cond.methodLink RX0 30 yX0_at, Cond.instanceMethod yX0_at, Cond.selects RX0 yX0_at yX0_at, Cond.code yX0_at cX0_at 2 (some .int), Cond.fieldLink RX0 11 "PeatHearths$Land" "row" "[I", Cond.methodLink RX0 34 yX0_cuttersAt, Cond.instanceMethod yX0_cuttersAt, Cond.selects RX0 yX0_cuttersAt yX0_cuttersAt, Cond.code yX0_cuttersAt cX0_cuttersAt 5 (some .int)]
def wsL_plot : List Cond := .codeWith yL_plot cL_plot 6 (some .int) [(0, 12, 15, 13), (0, 12, 19, 15)] :: ((wsL_plot_r1 ++ wsL_plot_r2) ++ wsX30 ++ wsX00 ++ (vx_atS RX3 228 "java/lang/IndexOutOfBoundsException" ["java/lang/RuntimeException", "java/lang/Exception"]).filter goodWord ++ (vx_atS RX3 235 "java/lang/IllegalArgumentException" ["java/lang/RuntimeException", "java/lang/Exception"]).filter goodWord)
def wsL_cutter_r1 : List Cond := [Cond.classLink RL 13 "java/lang/IndexOutOfBoundsException", Cond.classLink RL 15 "java/lang/IllegalArgumentException", Cond.methodLink RL 66 yX3_cutter, Cond.instanceMethod yX3_cutter, Cond.selects RX3 yX3_cutter yX3_cutter, Cond.initialized RX3, Cond.code yX3_cutter cX3_cutter 3 (some .int), Cond.fieldLink RX3 12 "PeatHearths" "land" "LPeatHearths$Land;", Cond.methodLink RX3 38 yX3_requireIndex, Cond.static yX3_requireIndex, Cond.code yX3_requireIndex cX3_requireIndex 2 none, Cond.classLink RX3 224 "java/lang/IndexOutOfBoundsException", Cond.initialized "java/lang/IndexOutOfBoundsException", Cond.methodLink RX3 42 yX3_requireRange, Cond.static yX3_requireRange, Cond.code yX3_requireRange cX3_requireRange 3 none, Cond.methodLink RX3 80 yX3_requireArgument, Cond.static yX3_requireArgument, Cond.code yX3_requireArgument cX3_requireArgument 1 none, Cond.classLink RX3 231 "java/lang/IllegalArgumentException", Cond.initialized "java/lang/IllegalArgumentException", Cond.methodLink RX3 148 yX0_ofCutter, Cond.instanceMethod yX0_ofCutter, Cond.selects RX0 yX0_ofCutter yX0_ofCutter]
def wsL_cutter_r2 : List Cond := [Cond.initialized RX0, Cond.code yX0_ofCutter cX0_ofCutter 3 (some .int), Cond.methodLink RX0 30 yX0_at, Cond.instanceMethod yX0_at, Cond.selects RX0 yX0_at yX0_at, Cond.code yX0_at cX0_at 2 (some .int), Cond.fieldLink RX0 11 "PeatHearths$Land" "row" "[I"]
def wsL_cutter : List Cond := .codeWith yL_cutter cL_cutter 5 (some .int) [(0, 10, 13, 13), (0, 10, 17, 15)] :: ((wsL_cutter_r1 ++ wsL_cutter_r2) ++ wsX30 ++ wsX00 ++ (vx_atS RX3 228 "java/lang/IndexOutOfBoundsException" ["java/lang/RuntimeException", "java/lang/Exception"]).filter goodWord ++ (vx_atS RX3 235 "java/lang/IllegalArgumentException" ["java/lang/RuntimeException", "java/lang/Exception"]).filter goodWord)
def wsL_rain_r1 : List Cond := [Cond.classLink RL 15 "java/lang/IllegalArgumentException", Cond.methodLink RL 69 yX3_rain, Cond.instanceMethod yX3_rain, Cond.selects RX3 yX3_rain yX3_rain, Cond.initialized RX3, Cond.code yX3_rain cX3_rain 2 (some .int), Cond.fieldLink RX3 12 "PeatHearths" "land" "LPeatHearths$Land;", Cond.methodLink RX3 80 yX3_requireArgument, Cond.static yX3_requireArgument, Cond.code yX3_requireArgument cX3_requireArgument 1 none, Cond.classLink RX3 231 "java/lang/IllegalArgumentException", Cond.initialized "java/lang/IllegalArgumentException", Cond.methodLink RX3 151 yX0_rainOf, Cond.instanceMethod yX0_rainOf, Cond.selects RX0 yX0_rainOf yX0_rainOf, Cond.initialized RX0, Cond.code yX0_rainOf cX0_rainOf 2 (some .int), Cond.methodLink RX0 44 yJ9_floorMod_7cf53, Cond.static yJ9_floorMod_7cf53, Cond.initialized RJ9, Cond.code yJ9_floorMod_7cf53 cJ9_floorMod_7cf53 3 (some .int), Cond.methodLink RX0 30 yX0_at, Cond.instanceMethod yX0_at, Cond.selects RX0 yX0_at yX0_at]
def wsL_rain_r2 : List Cond := [Cond.code yX0_at cX0_at 2 (some .int), Cond.fieldLink RX0 11 "PeatHearths$Land" "row" "[I"]
def wsL_rain : List Cond := .codeWith yL_rain cL_rain 4 (some .int) [(0, 9, 12, 15)] :: ((wsL_rain_r1 ++ wsL_rain_r2) ++ wsX30 ++ wsX00 ++ (vx_atS RX3 235 "java/lang/IllegalArgumentException" ["java/lang/RuntimeException", "java/lang/Exception"]).filter goodWord)
def wsL_count_r1 : List Cond := [Cond.classLink RL 15 "java/lang/IllegalArgumentException", Cond.methodLink RL 72 yX3_count, Cond.instanceMethod yX3_count, Cond.selects RX3 yX3_count yX3_count, Cond.initialized RX3, Cond.code yX3_count cX3_count 2 (some .int), Cond.fieldLink RX3 24 "PeatHearths" "saved" "LPeatHearths$Shelf;", Cond.fieldLink RX3 12 "PeatHearths" "land" "LPeatHearths$Land;", Cond.methodLink RX3 42 yX3_requireRange, Cond.static yX3_requireRange, Cond.code yX3_requireRange cX3_requireRange 3 none, Cond.methodLink RX3 80 yX3_requireArgument, Cond.static yX3_requireArgument, Cond.code yX3_requireArgument cX3_requireArgument 1 none, Cond.classLink RX3 231 "java/lang/IllegalArgumentException", Cond.initialized "java/lang/IllegalArgumentException", Cond.methodLink RX3 129 yX1_size, Cond.instanceMethod yX1_size, Cond.selects RX1 yX1_size yX1_size, Cond.initialized RX1, Cond.code yX1_size cX1_size 1 (some .int), Cond.fieldLink RX1 30 "PeatHearths$Shelf" "many" "I", Cond.methodLink RX3 154 yX0_ofAll, Cond.instanceMethod yX0_ofAll]
def wsL_count_r2 : List Cond := [Cond.selects RX0 yX0_ofAll yX0_ofAll, Cond.initialized RX0, Cond.code yX0_ofAll cX0_ofAll 2 (some .int), Cond.methodLink RX0 30 yX0_at, Cond.instanceMethod yX0_at, Cond.selects RX0 yX0_at yX0_at, Cond.code yX0_at cX0_at 2 (some .int), Cond.fieldLink RX0 11 "PeatHearths$Land" "row" "[I", Cond.methodLink RX0 99 yX0_cuttersAtWork, Cond.instanceMethod yX0_cuttersAtWork, Cond.selects RX0 yX0_cuttersAtWork yX0_cuttersAtWork, Cond.code yX0_cuttersAtWork cX0_cuttersAtWork 3 (some .int), Cond.methodLink RX0 37 yX0_cuttersOnBank, Cond.instanceMethod yX0_cuttersOnBank, Cond.selects RX0 yX0_cuttersOnBank yX0_cuttersOnBank, Cond.code yX0_cuttersOnBank cX0_cuttersOnBank 4 (some .int), Cond.methodLink RX0 34 yX0_cuttersAt, Cond.instanceMethod yX0_cuttersAt, Cond.selects RX0 yX0_cuttersAt yX0_cuttersAt, Cond.code yX0_cuttersAt cX0_cuttersAt 5 (some .int), Cond.methodLink RX0 102 yX0_sum, Cond.instanceMethod yX0_sum, Cond.selects RX0 yX0_sum yX0_sum, Cond.code yX0_sum cX0_sum 5 (some .int)]
def wsL_count_r3 : List Cond := [Cond.methodLink RX0 105 yX0_turvesOnBanks, Cond.instanceMethod yX0_turvesOnBanks, Cond.selects RX0 yX0_turvesOnBanks yX0_turvesOnBanks, Cond.code yX0_turvesOnBanks cX0_turvesOnBanks 1 (some .int), Cond.methodLink RX0 68 yX0_turvesOn, Cond.instanceMethod yX0_turvesOn, Cond.selects RX0 yX0_turvesOn yX0_turvesOn, Cond.code yX0_turvesOn cX0_turvesOn 7 (some .int), Cond.methodLink RX0 108 yX0_hearthsShort, Cond.instanceMethod yX0_hearthsShort, Cond.selects RX0 yX0_hearthsShort yX0_hearthsShort, Cond.code yX0_hearthsShort cX0_hearthsShort 3 (some .int), Cond.methodLink RX0 90 yX0_shortBy, Cond.instanceMethod yX0_shortBy, Cond.selects RX0 yX0_shortBy yX0_shortBy, Cond.code yX0_shortBy cX0_shortBy 2 (some .int), Cond.methodLink RX0 87 Lib.Math.max.name, Cond.static Lib.Math.max.name, Cond.initialized "java/lang/Math", Cond.code Lib.Math.max.name Lib.Math.max.code 2 (some .int), Cond.methodLink RX0 111 yX0_hearthsThatWillBeShort, Cond.instanceMethod yX0_hearthsThatWillBeShort, Cond.selects RX0 yX0_hearthsThatWillBeShort yX0_hearthsThatWillBeShort, Cond.code yX0_hearthsThatWillBeShort cX0_hearthsThatWillBeShort 3 (some .int)]
def wsL_count_r4 : List Cond := [Cond.methodLink RX0 93 yX0_willBeShortBy, Cond.instanceMethod yX0_willBeShortBy, Cond.selects RX0 yX0_willBeShortBy yX0_willBeShortBy, Cond.code yX0_willBeShortBy cX0_willBeShortBy 2 (some .int), Cond.methodLink RX0 19 yX0_plotOf, Cond.static yX0_plotOf, Cond.code yX0_plotOf cX0_plotOf 2 (some .int)]
def wsL_count : List Cond := .codeWith yL_count cL_count 4 (some .int) [(0, 9, 12, 15)] :: ((wsL_count_r1 ++ (wsL_count_r2 ++ (wsL_count_r3 ++ wsL_count_r4))) ++ wsX30 ++ wsX10 ++ wsX00 ++ (vx_atS RX3 235 "java/lang/IllegalArgumentException" ["java/lang/RuntimeException", "java/lang/Exception"]).filter goodWord)
def wsL_whyNot_r1 : List Cond := [Cond.classLink RL 13 "java/lang/IndexOutOfBoundsException", Cond.methodLink RL 75 yX3_whyNot, Cond.instanceMethod yX3_whyNot, Cond.selects RX3 yX3_whyNot yX3_whyNot, Cond.initialized RX3, Cond.code yX3_whyNot cX3_whyNot 4 (some .int), Cond.fieldLink RX3 12 "PeatHearths" "land" "LPeatHearths$Land;", Cond.methodLink RX3 38 yX3_requireIndex, Cond.static yX3_requireIndex, Cond.code yX3_requireIndex cX3_requireIndex 2 none, Cond.classLink RX3 224 "java/lang/IndexOutOfBoundsException", Cond.initialized "java/lang/IndexOutOfBoundsException", Cond.methodLink RX3 57 yX0_reasonAgainst, Cond.instanceMethod yX0_reasonAgainst, Cond.selects RX0 yX0_reasonAgainst yX0_reasonAgainst, Cond.initialized RX0, Cond.code yX0_reasonAgainst cX0_reasonAgainst 4 (some .int), Cond.methodLink RX0 19 yX0_plotOf, Cond.static yX0_plotOf, Cond.code yX0_plotOf cX0_plotOf 2 (some .int), Cond.methodLink RX0 30 yX0_at, Cond.instanceMethod yX0_at, Cond.selects RX0 yX0_at yX0_at, Cond.code yX0_at cX0_at 2 (some .int)]
def wsL_whyNot_r2 : List Cond := [Cond.fieldLink RX0 11 "PeatHearths$Land" "row" "[I", Cond.methodLink RX0 34 yX0_cuttersAt, Cond.instanceMethod yX0_cuttersAt, Cond.selects RX0 yX0_cuttersAt yX0_cuttersAt, Cond.code yX0_cuttersAt cX0_cuttersAt 5 (some .int)]
def wsL_whyNot : List Cond := .codeWith yL_whyNot cL_whyNot 6 (some .int) [(0, 12, 15, 13)] :: ((wsL_whyNot_r1 ++ wsL_whyNot_r2) ++ wsX30 ++ wsX00 ++ (vx_atS RX3 228 "java/lang/IndexOutOfBoundsException" ["java/lang/RuntimeException", "java/lang/Exception"]).filter goodWord)
def wsL_ifPassed_r1 : List Cond := [Cond.classLink RL 15 "java/lang/IllegalArgumentException", Cond.methodLink RL 78 yX3_ifPassed, Cond.instanceMethod yX3_ifPassed, Cond.selects RX3 yX3_ifPassed yX3_ifPassed, Cond.initialized RX3, Cond.code yX3_ifPassed cX3_ifPassed 4 (some .int), Cond.fieldLink RX3 16 "PeatHearths" "trial" "LPeatHearths$Land;", Cond.fieldLink RX3 12 "PeatHearths" "land" "LPeatHearths$Land;", Cond.methodLink RX3 42 yX3_requireRange, Cond.static yX3_requireRange, Cond.code yX3_requireRange cX3_requireRange 3 none, Cond.methodLink RX3 80 yX3_requireArgument, Cond.static yX3_requireArgument, Cond.code yX3_requireArgument cX3_requireArgument 1 none, Cond.classLink RX3 231 "java/lang/IllegalArgumentException", Cond.initialized "java/lang/IllegalArgumentException", Cond.methodLink RX3 157 yX0_copyFrom, Cond.instanceMethod yX0_copyFrom, Cond.selects RX0 yX0_copyFrom yX0_copyFrom, Cond.initialized RX0, Cond.code yX0_copyFrom cX0_copyFrom 3 none, Cond.methodLink RX0 30 yX0_at, Cond.instanceMethod yX0_at, Cond.selects RX0 yX0_at yX0_at]
def wsL_ifPassed_r2 : List Cond := [Cond.code yX0_at cX0_at 2 (some .int), Cond.fieldLink RX0 11 "PeatHearths$Land" "row" "[I", Cond.methodLink RX0 15 yX0_put, Cond.instanceMethod yX0_put, Cond.selects RX0 yX0_put yX0_put, Cond.code yX0_put cX0_put 3 none, Cond.methodLink RX3 96 yX0_passDays, Cond.instanceMethod yX0_passDays, Cond.selects RX0 yX0_passDays yX0_passDays, Cond.code yX0_passDays cX0_passDays 4 (some .int), Cond.methodLink RX0 23 yX0_add, Cond.instanceMethod yX0_add, Cond.selects RX0 yX0_add yX0_add, Cond.code yX0_add cX0_add 3 none, Cond.methodLink RX0 49 yX0_weather, Cond.instanceMethod yX0_weather, Cond.selects RX0 yX0_weather yX0_weather, Cond.code yX0_weather cX0_weather 3 none, Cond.methodLink RX0 68 yX0_turvesOn, Cond.instanceMethod yX0_turvesOn, Cond.selects RX0 yX0_turvesOn yX0_turvesOn, Cond.code yX0_turvesOn cX0_turvesOn 7 (some .int), Cond.methodLink RX0 72 yX0_wetAgain, Cond.instanceMethod yX0_wetAgain]
def wsL_ifPassed_r3 : List Cond := [Cond.selects RX0 yX0_wetAgain yX0_wetAgain, Cond.code yX0_wetAgain cX0_wetAgain 4 none, Cond.methodLink RX0 78 yX0_halfRoundedUp, Cond.static yX0_halfRoundedUp, Cond.code yX0_halfRoundedUp cX0_halfRoundedUp 1 (some .int), Cond.methodLink RX0 75 yX0_dryOut, Cond.instanceMethod yX0_dryOut, Cond.selects RX0 yX0_dryOut yX0_dryOut, Cond.code yX0_dryOut cX0_dryOut 5 none, Cond.methodLink RX0 65 Lib.Math.min.name, Cond.static Lib.Math.min.name, Cond.initialized "java/lang/Math", Cond.code Lib.Math.min.name Lib.Math.min.code 2 (some .int), Cond.methodLink RX0 52 yX0_burn, Cond.instanceMethod yX0_burn, Cond.selects RX0 yX0_burn yX0_burn, Cond.code yX0_burn cX0_burn 4 none, Cond.methodLink RX0 55 yX0_cutTurves, Cond.instanceMethod yX0_cutTurves, Cond.selects RX0 yX0_cutTurves yX0_cutTurves, Cond.code yX0_cutTurves cX0_cutTurves 5 none, Cond.methodLink RX0 19 yX0_plotOf, Cond.static yX0_plotOf, Cond.code yX0_plotOf cX0_plotOf 2 (some .int)]
def wsL_ifPassed_r4 : List Cond := [Cond.methodLink RX0 58 yX0_rainOf, Cond.instanceMethod yX0_rainOf, Cond.selects RX0 yX0_rainOf yX0_rainOf, Cond.code yX0_rainOf cX0_rainOf 2 (some .int), Cond.methodLink RX0 44 yJ9_floorMod_7cf53, Cond.static yJ9_floorMod_7cf53, Cond.initialized RJ9, Cond.code yJ9_floorMod_7cf53 cJ9_floorMod_7cf53 3 (some .int), Cond.methodLink RX0 61 yX0_goCarts, Cond.instanceMethod yX0_goCarts, Cond.selects RX0 yX0_goCarts yX0_goCarts, Cond.code yX0_goCarts cX0_goCarts 7 (some .int), Cond.methodLink RX0 81 yX0_cartHome, Cond.instanceMethod yX0_cartHome, Cond.selects RX0 yX0_cartHome yX0_cartHome, Cond.code yX0_cartHome cX0_cartHome 7 (some .int), Cond.methodLink RX0 84 yX0_poorestWidow, Cond.instanceMethod yX0_poorestWidow, Cond.selects RX0 yX0_poorestWidow yX0_poorestWidow, Cond.code yX0_poorestWidow cX0_poorestWidow 3 (some .int), Cond.methodLink RX3 160 yX0_hearthsShort, Cond.instanceMethod yX0_hearthsShort, Cond.selects RX0 yX0_hearthsShort yX0_hearthsShort, Cond.code yX0_hearthsShort cX0_hearthsShort 3 (some .int)]
def wsL_ifPassed_r5 : List Cond := [Cond.methodLink RX0 90 yX0_shortBy, Cond.instanceMethod yX0_shortBy, Cond.selects RX0 yX0_shortBy yX0_shortBy, Cond.code yX0_shortBy cX0_shortBy 2 (some .int), Cond.methodLink RX0 87 Lib.Math.max.name, Cond.static Lib.Math.max.name, Cond.code Lib.Math.max.name Lib.Math.max.code 2 (some .int), Cond.methodLink RX3 163 yX0_sum, Cond.instanceMethod yX0_sum, Cond.selects RX0 yX0_sum yX0_sum, Cond.code yX0_sum cX0_sum 5 (some .int)]
def wsL_ifPassed : List Cond := .codeWith yL_ifPassed cL_ifPassed 5 (some .int) [(0, 10, 13, 15)] :: ((wsL_ifPassed_r1 ++ (wsL_ifPassed_r2 ++ (wsL_ifPassed_r3 ++ (wsL_ifPassed_r4 ++ wsL_ifPassed_r5)))) ++ wsX30 ++ wsX00 ++ (vx_atS RX3 235 "java/lang/IllegalArgumentException" ["java/lang/RuntimeException", "java/lang/Exception"]).filter goodWord)
def wsL_enoughIn_r1 : List Cond := [Cond.classLink RL 13 "java/lang/IndexOutOfBoundsException", Cond.methodLink RL 81 yX3_enoughIn, Cond.instanceMethod yX3_enoughIn, Cond.selects RX3 yX3_enoughIn yX3_enoughIn, Cond.initialized RX3, Cond.code yX3_enoughIn cX3_enoughIn 3 (some .int), Cond.fieldLink RX3 16 "PeatHearths" "trial" "LPeatHearths$Land;", Cond.fieldLink RX3 12 "PeatHearths" "land" "LPeatHearths$Land;", Cond.methodLink RX3 38 yX3_requireIndex, Cond.static yX3_requireIndex, Cond.code yX3_requireIndex cX3_requireIndex 2 none, Cond.classLink RX3 224 "java/lang/IndexOutOfBoundsException", Cond.initialized "java/lang/IndexOutOfBoundsException", Cond.methodLink RX3 157 yX0_copyFrom, Cond.instanceMethod yX0_copyFrom, Cond.selects RX0 yX0_copyFrom yX0_copyFrom, Cond.initialized RX0, Cond.code yX0_copyFrom cX0_copyFrom 3 none, Cond.methodLink RX0 30 yX0_at, Cond.instanceMethod yX0_at, Cond.selects RX0 yX0_at yX0_at, Cond.code yX0_at cX0_at 2 (some .int), Cond.fieldLink RX0 11 "PeatHearths$Land" "row" "[I", Cond.methodLink RX0 15 yX0_put]
def wsL_enoughIn_r2 : List Cond := [Cond.instanceMethod yX0_put, Cond.selects RX0 yX0_put yX0_put, Cond.code yX0_put cX0_put 3 none, Cond.methodLink RX3 166 yX0_shortBy, Cond.instanceMethod yX0_shortBy, Cond.selects RX0 yX0_shortBy yX0_shortBy, Cond.code yX0_shortBy cX0_shortBy 2 (some .int), Cond.methodLink RX0 87 Lib.Math.max.name, Cond.static Lib.Math.max.name, Cond.initialized "java/lang/Math", Cond.code Lib.Math.max.name Lib.Math.max.code 2 (some .int), Cond.methodLink RX3 96 yX0_passDays, Cond.instanceMethod yX0_passDays, Cond.selects RX0 yX0_passDays yX0_passDays, Cond.code yX0_passDays cX0_passDays 4 (some .int), Cond.methodLink RX0 23 yX0_add, Cond.instanceMethod yX0_add, Cond.selects RX0 yX0_add yX0_add, Cond.code yX0_add cX0_add 3 none, Cond.methodLink RX0 49 yX0_weather, Cond.instanceMethod yX0_weather, Cond.selects RX0 yX0_weather yX0_weather, Cond.code yX0_weather cX0_weather 3 none, Cond.methodLink RX0 68 yX0_turvesOn]
def wsL_enoughIn_r3 : List Cond := [Cond.instanceMethod yX0_turvesOn, Cond.selects RX0 yX0_turvesOn yX0_turvesOn, Cond.code yX0_turvesOn cX0_turvesOn 7 (some .int), Cond.methodLink RX0 72 yX0_wetAgain, Cond.instanceMethod yX0_wetAgain, Cond.selects RX0 yX0_wetAgain yX0_wetAgain, Cond.code yX0_wetAgain cX0_wetAgain 4 none, Cond.methodLink RX0 78 yX0_halfRoundedUp, Cond.static yX0_halfRoundedUp, Cond.code yX0_halfRoundedUp cX0_halfRoundedUp 1 (some .int), Cond.methodLink RX0 75 yX0_dryOut, Cond.instanceMethod yX0_dryOut, Cond.selects RX0 yX0_dryOut yX0_dryOut, Cond.code yX0_dryOut cX0_dryOut 5 none, Cond.methodLink RX0 65 Lib.Math.min.name, Cond.static Lib.Math.min.name, Cond.code Lib.Math.min.name Lib.Math.min.code 2 (some .int), Cond.methodLink RX0 52 yX0_burn, Cond.instanceMethod yX0_burn, Cond.selects RX0 yX0_burn yX0_burn, Cond.code yX0_burn cX0_burn 4 none, Cond.methodLink RX0 55 yX0_cutTurves, Cond.instanceMethod yX0_cutTurves, Cond.selects RX0 yX0_cutTurves yX0_cutTurves]
def wsL_enoughIn_r4 : List Cond := [Cond.code yX0_cutTurves cX0_cutTurves 5 none, Cond.methodLink RX0 19 yX0_plotOf, Cond.static yX0_plotOf, Cond.code yX0_plotOf cX0_plotOf 2 (some .int), Cond.methodLink RX0 58 yX0_rainOf, Cond.instanceMethod yX0_rainOf, Cond.selects RX0 yX0_rainOf yX0_rainOf, Cond.code yX0_rainOf cX0_rainOf 2 (some .int), Cond.methodLink RX0 44 yJ9_floorMod_7cf53, Cond.static yJ9_floorMod_7cf53, Cond.initialized RJ9, Cond.code yJ9_floorMod_7cf53 cJ9_floorMod_7cf53 3 (some .int), Cond.methodLink RX0 61 yX0_goCarts, Cond.instanceMethod yX0_goCarts, Cond.selects RX0 yX0_goCarts yX0_goCarts, Cond.code yX0_goCarts cX0_goCarts 7 (some .int), Cond.methodLink RX0 81 yX0_cartHome, Cond.instanceMethod yX0_cartHome, Cond.selects RX0 yX0_cartHome yX0_cartHome, Cond.code yX0_cartHome cX0_cartHome 7 (some .int), Cond.methodLink RX0 84 yX0_poorestWidow, Cond.instanceMethod yX0_poorestWidow, Cond.selects RX0 yX0_poorestWidow yX0_poorestWidow, Cond.code yX0_poorestWidow cX0_poorestWidow 3 (some .int)]
def wsL_enoughIn : List Cond := .codeWith yL_enoughIn cL_enoughIn 4 (some .int) [(0, 9, 12, 13)] :: ((wsL_enoughIn_r1 ++ (wsL_enoughIn_r2 ++ (wsL_enoughIn_r3 ++ wsL_enoughIn_r4))) ++ wsX30 ++ wsX00 ++ (vx_atS RX3 228 "java/lang/IndexOutOfBoundsException" ["java/lang/RuntimeException", "java/lang/Exception"]).filter goodWord)
def wsL_bestBank_r1 : List Cond := [Cond.classLink RL 13 "java/lang/IndexOutOfBoundsException", Cond.methodLink RL 84 yX3_bestBank, Cond.instanceMethod yX3_bestBank, Cond.selects RX3 yX3_bestBank yX3_bestBank, Cond.initialized RX3, Cond.code yX3_bestBank cX3_bestBank 7 (some .int), Cond.fieldLink RX3 12 "PeatHearths" "land" "LPeatHearths$Land;", Cond.fieldLink RX3 16 "PeatHearths" "trial" "LPeatHearths$Land;", Cond.methodLink RX3 38 yX3_requireIndex, Cond.static yX3_requireIndex, Cond.code yX3_requireIndex cX3_requireIndex 2 none, Cond.classLink RX3 224 "java/lang/IndexOutOfBoundsException", Cond.initialized "java/lang/IndexOutOfBoundsException", Cond.methodLink RX3 57 yX0_reasonAgainst, Cond.instanceMethod yX0_reasonAgainst, Cond.selects RX0 yX0_reasonAgainst yX0_reasonAgainst, Cond.initialized RX0, Cond.code yX0_reasonAgainst cX0_reasonAgainst 4 (some .int), Cond.methodLink RX0 19 yX0_plotOf, Cond.static yX0_plotOf, Cond.code yX0_plotOf cX0_plotOf 2 (some .int), Cond.methodLink RX0 30 yX0_at, Cond.instanceMethod yX0_at, Cond.selects RX0 yX0_at yX0_at]
def wsL_bestBank_r2 : List Cond := [Cond.code yX0_at cX0_at 2 (some .int), Cond.fieldLink RX0 11 "PeatHearths$Land" "row" "[I", Cond.methodLink RX0 34 yX0_cuttersAt, Cond.instanceMethod yX0_cuttersAt, Cond.selects RX0 yX0_cuttersAt yX0_cuttersAt, Cond.code yX0_cuttersAt cX0_cuttersAt 5 (some .int), Cond.methodLink RX3 157 yX0_copyFrom, Cond.instanceMethod yX0_copyFrom, Cond.selects RX0 yX0_copyFrom yX0_copyFrom, Cond.code yX0_copyFrom cX0_copyFrom 3 none, Cond.methodLink RX0 15 yX0_put, Cond.instanceMethod yX0_put, Cond.selects RX0 yX0_put yX0_put, Cond.code yX0_put cX0_put 3 none, Cond.methodLink RX3 64 yX0_setToWork, Cond.instanceMethod yX0_setToWork, Cond.selects RX0 yX0_setToWork yX0_setToWork, Cond.code yX0_setToWork cX0_setToWork 4 none, Cond.methodLink RX3 96 yX0_passDays, Cond.instanceMethod yX0_passDays, Cond.selects RX0 yX0_passDays yX0_passDays, Cond.code yX0_passDays cX0_passDays 4 (some .int), Cond.methodLink RX0 23 yX0_add, Cond.instanceMethod yX0_add]
def wsL_bestBank_r3 : List Cond := [Cond.selects RX0 yX0_add yX0_add, Cond.code yX0_add cX0_add 3 none, Cond.methodLink RX0 49 yX0_weather, Cond.instanceMethod yX0_weather, Cond.selects RX0 yX0_weather yX0_weather, Cond.code yX0_weather cX0_weather 3 none, Cond.methodLink RX0 68 yX0_turvesOn, Cond.instanceMethod yX0_turvesOn, Cond.selects RX0 yX0_turvesOn yX0_turvesOn, Cond.code yX0_turvesOn cX0_turvesOn 7 (some .int), Cond.methodLink RX0 72 yX0_wetAgain, Cond.instanceMethod yX0_wetAgain, Cond.selects RX0 yX0_wetAgain yX0_wetAgain, Cond.code yX0_wetAgain cX0_wetAgain 4 none, Cond.methodLink RX0 78 yX0_halfRoundedUp, Cond.static yX0_halfRoundedUp, Cond.code yX0_halfRoundedUp cX0_halfRoundedUp 1 (some .int), Cond.methodLink RX0 75 yX0_dryOut, Cond.instanceMethod yX0_dryOut, Cond.selects RX0 yX0_dryOut yX0_dryOut, Cond.code yX0_dryOut cX0_dryOut 5 none, Cond.methodLink RX0 65 Lib.Math.min.name, Cond.static Lib.Math.min.name, Cond.initialized "java/lang/Math"]
def wsL_bestBank_r4 : List Cond := [Cond.code Lib.Math.min.name Lib.Math.min.code 2 (some .int), Cond.methodLink RX0 52 yX0_burn, Cond.instanceMethod yX0_burn, Cond.selects RX0 yX0_burn yX0_burn, Cond.code yX0_burn cX0_burn 4 none, Cond.methodLink RX0 55 yX0_cutTurves, Cond.instanceMethod yX0_cutTurves, Cond.selects RX0 yX0_cutTurves yX0_cutTurves, Cond.code yX0_cutTurves cX0_cutTurves 5 none, Cond.methodLink RX0 58 yX0_rainOf, Cond.instanceMethod yX0_rainOf, Cond.selects RX0 yX0_rainOf yX0_rainOf, Cond.code yX0_rainOf cX0_rainOf 2 (some .int), Cond.methodLink RX0 44 yJ9_floorMod_7cf53, Cond.static yJ9_floorMod_7cf53, Cond.initialized RJ9, Cond.code yJ9_floorMod_7cf53 cJ9_floorMod_7cf53 3 (some .int), Cond.methodLink RX0 61 yX0_goCarts, Cond.instanceMethod yX0_goCarts, Cond.selects RX0 yX0_goCarts yX0_goCarts, Cond.code yX0_goCarts cX0_goCarts 7 (some .int), Cond.methodLink RX0 81 yX0_cartHome, Cond.instanceMethod yX0_cartHome, Cond.selects RX0 yX0_cartHome yX0_cartHome]
def wsL_bestBank_r5 : List Cond := [Cond.code yX0_cartHome cX0_cartHome 7 (some .int), Cond.methodLink RX0 84 yX0_poorestWidow, Cond.instanceMethod yX0_poorestWidow, Cond.selects RX0 yX0_poorestWidow yX0_poorestWidow, Cond.code yX0_poorestWidow cX0_poorestWidow 3 (some .int), Cond.methodLink RX3 86 yX0_at]
def wsL_bestBank : List Cond := .codeWith yL_bestBank cL_bestBank 5 (some .int) [(0, 10, 13, 13)] :: ((wsL_bestBank_r1 ++ (wsL_bestBank_r2 ++ (wsL_bestBank_r3 ++ (wsL_bestBank_r4 ++ wsL_bestBank_r5)))) ++ wsX30 ++ wsX00 ++ (vx_atS RX3 228 "java/lang/IndexOutOfBoundsException" ["java/lang/RuntimeException", "java/lang/Exception"]).filter goodWord)
def wsL_law0_r1 : List Cond := [Cond.classLink RL 8 RX3, Cond.instantiable RX3 5, Cond.initialized RX3, Cond.classLink RL 88 RX4, Cond.instantiable RX4 15, Cond.initialized RX4, Cond.arrayClass .long, Cond.methodLink RL 87 yX3_init, Cond.instanceMethod yX3_init, Cond.code yX3_init cX3_init 1 none, Cond.methodLink RX3 3 objectInit, Cond.instanceMethod objectInit, Cond.code objectInit ⟨#[0xb1]⟩ 1 none, Cond.classLink RX3 9 RX0, Cond.instantiable RX0 1, Cond.initialized RX0, Cond.fieldLink RX3 12 "PeatHearths" "land" "LPeatHearths$Land;", Cond.fieldLink RX3 16 "PeatHearths" "trial" "LPeatHearths$Land;", Cond.classLink RX3 19 RX1, Cond.instantiable RX1 4, Cond.initialized RX1, Cond.fieldLink RX3 24 "PeatHearths" "saved" "LPeatHearths$Shelf;", Cond.fieldLink RX3 28 "PeatHearths" "snapshot" "LPeatHearths$Shelf;", Cond.classLink RX3 31 RX2]
def wsL_law0_r2 : List Cond := [Cond.instantiable RX2 2, Cond.initialized RX2, Cond.fieldLink RX3 34 "PeatHearths" "text" "LPeatHearths$Text;", Cond.methodLink RX3 11 yX0_init, Cond.instanceMethod yX0_init, Cond.code yX0_init cX0_init 3 none, Cond.methodLink RX0 5 objectInit, Cond.arrayClass .int, Cond.fieldLink RX0 11 "PeatHearths$Land" "row" "[I", Cond.methodLink RX0 15 yX0_put, Cond.instanceMethod yX0_put, Cond.selects RX0 yX0_put yX0_put, Cond.code yX0_put cX0_put 3 none, Cond.methodLink RX0 19 yX0_plotOf, Cond.static yX0_plotOf, Cond.code yX0_plotOf cX0_plotOf 2 (some .int), Cond.methodLink RX0 23 yX0_add, Cond.instanceMethod yX0_add, Cond.selects RX0 yX0_add yX0_add, Cond.code yX0_add cX0_add 3 none, Cond.methodLink RX0 30 yX0_at, Cond.instanceMethod yX0_at, Cond.selects RX0 yX0_at yX0_at, Cond.code yX0_at cX0_at 2 (some .int)]
def wsL_law0_r3 : List Cond := [Cond.methodLink RX0 26 yX0_letRest, Cond.instanceMethod yX0_letRest, Cond.selects RX0 yX0_letRest yX0_letRest, Cond.code yX0_letRest cX0_letRest 2 none, Cond.methodLink RX0 40 yX0_setToWork, Cond.instanceMethod yX0_setToWork, Cond.selects RX0 yX0_setToWork yX0_setToWork, Cond.code yX0_setToWork cX0_setToWork 4 none, Cond.methodLink RX3 21 yX1_init, Cond.instanceMethod yX1_init, Cond.code yX1_init cX1_init 2 none, Cond.methodLink RX1 3 objectInit, Cond.methodLink RX1 9 Lib.Math.min.name, Cond.static Lib.Math.min.name, Cond.initialized "java/lang/Math", Cond.code Lib.Math.min.name Lib.Math.min.code 2 (some .int), Cond.methodLink RX1 15 Lib.Math.max.name, Cond.static Lib.Math.max.name, Cond.code Lib.Math.max.name Lib.Math.max.code 2 (some .int), Cond.fieldLink RX1 18 "PeatHearths$Shelf" "most" "I", Cond.fieldLink RX1 26 "PeatHearths$Shelf" "rows" "[I", Cond.instanceMethod yX2_init, Cond.code yX2_init cX2_init 1 none, Cond.methodLink RX2 3 objectInit]
def wsL_law0_r4 : List Cond := [Cond.arrayClass .char, Cond.fieldLink RX2 9 "PeatHearths$Text" "signs" "[C", Cond.methodLink RL 90 yX4_init, Cond.instanceMethod yX4_init, Cond.code yX4_init cX4_init 2 none, Cond.methodLink RX4 1 objectInit, Cond.fieldLink RX4 7 "PeatHearthsModel" "state" "[I", Cond.fieldLink RX4 13 "PeatHearthsModel" "spare" "[I", Cond.fieldLink RX4 16 "PeatHearthsModel" "saved" "[I", Cond.fieldLink RX4 19 "PeatHearthsModel" "snapshot" "[I", Cond.fieldLink RX4 22 "PeatHearthsModel" "buffer" "[I", Cond.methodLink RL 91 yL_hearth, Cond.static yL_hearth, Cond.initialized RL, Cond.codeWith yL_hearth cL_hearth 6 (some .int) [(0, 12, 15, 13), (0, 12, 19, 15)], Cond.classLink RL 13 "java/lang/IndexOutOfBoundsException", Cond.classLink RL 15 "java/lang/IllegalArgumentException", Cond.methodLink RL 7 yX3_hearth, Cond.instanceMethod yX3_hearth, Cond.selects RX3 yX3_hearth yX3_hearth, Cond.code yX3_hearth cX3_hearth 4 (some .int), Cond.methodLink RX3 38 yX3_requireIndex, Cond.static yX3_requireIndex, Cond.code yX3_requireIndex cX3_requireIndex 2 none]
def wsL_law0_r5 : List Cond := [Cond.classLink RX3 224 "java/lang/IndexOutOfBoundsException", Cond.initialized "java/lang/IndexOutOfBoundsException", Cond.methodLink RX3 42 yX3_requireRange, Cond.static yX3_requireRange, Cond.code yX3_requireRange cX3_requireRange 3 none, Cond.methodLink RX3 80 yX3_requireArgument, Cond.static yX3_requireArgument, Cond.code yX3_requireArgument cX3_requireArgument 1 none, Cond.classLink RX3 231 "java/lang/IllegalArgumentException", Cond.initialized "java/lang/IllegalArgumentException", Cond.methodLink RX3 46 yX1_push, Cond.instanceMethod yX1_push, Cond.selects RX1 yX1_push yX1_push, Cond.code yX1_push cX1_push 4 none, Cond.fieldLink RX1 33 "PeatHearths$Shelf" "top" "I", Cond.fieldLink RX1 30 "PeatHearths$Shelf" "many" "I", Cond.methodLink RX1 36 yX1_isInside, Cond.instanceMethod yX1_isInside, Cond.selects RX1 yX1_isInside yX1_isInside, Cond.code yX1_isInside cX1_isInside 2 (some .boolean), Cond.methodLink RX1 40 yX0_at, Cond.methodLink RX3 50 yX0_put, Cond.methodLink RX3 53 yX0_swap, Cond.instanceMethod yX0_swap]
def wsL_law0_r6 : List Cond := [Cond.selects RX0 yX0_swap yX0_swap, Cond.code yX0_swap cX0_swap 4 (some .int), Cond.methodLink RL 96 yX4_hearth, Cond.instanceMethod yX4_hearth, Cond.selects RX4 yX4_hearth yX4_hearth, Cond.code yX4_hearth cX4_hearth 5 (some .int), Cond.fieldLink RX4 25 "PeatHearthsModel" "thrown" "I", Cond.methodLink RX4 109 yX4_isHearth, Cond.static yX4_isHearth, Cond.code yX4_isHearth cX4_isHearth 1 (some .boolean), Cond.methodLink RX4 29 yX4_within, Cond.static yX4_within, Cond.code yX4_within cX4_within 3 (some .boolean), Cond.methodLink RX4 36 yX4_fails, Cond.instanceMethod yX4_fails, Cond.selects RX4 yX4_fails yX4_fails, Cond.code yX4_fails cX4_fails 2 (some .int), Cond.methodLink RX4 44 yX4_save, Cond.instanceMethod yX4_save, Cond.selects RX4 yX4_save yX4_save, Cond.code yX4_save cX4_save 2 none, Cond.fieldLink RX4 33 "PeatHearthsModel" "savedMany" "I", Cond.methodLink RL 97 yX4_thrown, Cond.instanceMethod yX4_thrown]
def wsL_law0_r7 : List Cond := [Cond.selects RX4 yX4_thrown yX4_thrown, Cond.code yX4_thrown cX4_thrown 1 (some .int), Cond.methodLink RL 100 yL_track, Cond.static yL_track, Cond.codeWith yL_track cL_track 5 (some .int) [(0, 10, 13, 13), (0, 10, 17, 15)], Cond.methodLink RL 17 yX3_track, Cond.instanceMethod yX3_track, Cond.selects RX3 yX3_track yX3_track, Cond.code yX3_track cX3_track 3 (some .int), Cond.methodLink RL 103 yX4_track, Cond.instanceMethod yX4_track, Cond.selects RX4 yX4_track yX4_track, Cond.code yX4_track cX4_track 4 (some .int), Cond.methodLink RX4 113 yX4_isBank, Cond.static yX4_isBank, Cond.code yX4_isBank cX4_isBank 1 (some .boolean), Cond.methodLink RL 104 yL_strength, Cond.static yL_strength, Cond.codeWith yL_strength cL_strength 5 (some .int) [(0, 10, 13, 13), (0, 10, 17, 15)], Cond.methodLink RL 21 yX3_strength, Cond.instanceMethod yX3_strength, Cond.selects RX3 yX3_strength yX3_strength, Cond.code yX3_strength cX3_strength 3 (some .int), Cond.methodLink RL 106 yX4_strength]
def wsL_law0_r8 : List Cond := [Cond.instanceMethod yX4_strength, Cond.selects RX4 yX4_strength yX4_strength, Cond.code yX4_strength cX4_strength 4 (some .int), Cond.methodLink RX4 116 yX4_isCutter, Cond.static yX4_isCutter, Cond.code yX4_isCutter cX4_isCutter 1 (some .boolean), Cond.methodLink RL 107 yL_work, Cond.static yL_work, Cond.codeWith yL_work cL_work 6 (some .int) [(0, 12, 15, 13), (0, 12, 19, 28)], Cond.classLink RL 28 "java/lang/IllegalStateException", Cond.methodLink RL 24 yX3_work, Cond.instanceMethod yX3_work, Cond.selects RX3 yX3_work yX3_work, Cond.code yX3_work cX3_work 4 (some .int), Cond.methodLink RX3 57 yX0_reasonAgainst, Cond.instanceMethod yX0_reasonAgainst, Cond.selects RX0 yX0_reasonAgainst yX0_reasonAgainst, Cond.code yX0_reasonAgainst cX0_reasonAgainst 4 (some .int), Cond.methodLink RX0 34 yX0_cuttersAt, Cond.instanceMethod yX0_cuttersAt, Cond.selects RX0 yX0_cuttersAt yX0_cuttersAt, Cond.code yX0_cuttersAt cX0_cuttersAt 5 (some .int), Cond.methodLink RX3 60 yX3_requireState, Cond.static yX3_requireState]
def wsL_law0_r9 : List Cond := [Cond.code yX3_requireState cX3_requireState 1 none, Cond.classLink RX3 236 "java/lang/IllegalStateException", Cond.initialized "java/lang/IllegalStateException", Cond.methodLink RX3 64 yX0_setToWork, Cond.methodLink RX3 67 yX0_cuttersAt, Cond.methodLink RL 110 yX4_work, Cond.instanceMethod yX4_work, Cond.selects RX4 yX4_work yX4_work, Cond.code yX4_work cX4_work 4 (some .int), Cond.methodLink RX4 119 yX4_reason, Cond.instanceMethod yX4_reason, Cond.selects RX4 yX4_reason yX4_reason, Cond.code yX4_reason cX4_reason 4 (some .int), Cond.methodLink RX4 103 yX4_sharesOf, Cond.instanceMethod yX4_sharesOf, Cond.selects RX4 yX4_sharesOf yX4_sharesOf, Cond.code yX4_sharesOf cX4_sharesOf 3 (some .int), Cond.methodLink RX4 85 yX4_commons, Cond.instanceMethod yX4_commons, Cond.selects RX4 yX4_commons yX4_commons, Cond.code yX4_commons cX4_commons 4 (some .int), Cond.methodLink RX4 88 yX4_workers, Cond.instanceMethod yX4_workers, Cond.selects RX4 yX4_workers yX4_workers]
def wsL_law0_r10 : List Cond := [Cond.code yX4_workers cX4_workers 5 (some .int), Cond.methodLink RX4 106 yX4_setToWork, Cond.instanceMethod yX4_setToWork, Cond.selects RX4 yX4_setToWork yX4_setToWork, Cond.code yX4_setToWork cX4_setToWork 4 none, Cond.methodLink RL 111 yL_rest, Cond.static yL_rest, Cond.codeWith yL_rest cL_rest 4 (some .int) [(0, 9, 12, 13)], Cond.methodLink RL 30 yX3_rest, Cond.instanceMethod yX3_rest, Cond.selects RX3 yX3_rest yX3_rest, Cond.code yX3_rest cX3_rest 2 (some .int), Cond.methodLink RX3 70 yX0_letRest, Cond.methodLink RX3 73 yX0_cuttersAtWork, Cond.instanceMethod yX0_cuttersAtWork, Cond.selects RX0 yX0_cuttersAtWork yX0_cuttersAtWork, Cond.code yX0_cuttersAtWork cX0_cuttersAtWork 3 (some .int), Cond.methodLink RX0 37 yX0_cuttersOnBank, Cond.instanceMethod yX0_cuttersOnBank, Cond.selects RX0 yX0_cuttersOnBank yX0_cuttersOnBank, Cond.code yX0_cuttersOnBank cX0_cuttersOnBank 4 (some .int), Cond.methodLink RL 114 yX4_rest, Cond.instanceMethod yX4_rest, Cond.selects RX4 yX4_rest yX4_rest]
def wsL_law0_r11 : List Cond := [Cond.code yX4_rest cX4_rest 2 (some .int), Cond.methodLink RX4 122 yX4_allWorkers, Cond.instanceMethod yX4_allWorkers, Cond.selects RX4 yX4_allWorkers yX4_allWorkers, Cond.code yX4_allWorkers cX4_allWorkers 3 (some .int), Cond.methodLink RX4 91 yX4_workersOn, Cond.instanceMethod yX4_workersOn, Cond.selects RX4 yX4_workersOn yX4_workersOn, Cond.code yX4_workersOn cX4_workersOn 4 (some .int), Cond.methodLink RL 115 yL_give, Cond.static yL_give, Cond.codeWith yL_give cL_give 7 (some .int) [(0, 14, 17, 13), (0, 14, 21, 15), (0, 14, 25, 28)], Cond.methodLink RL 34 yX3_give, Cond.instanceMethod yX3_give, Cond.selects RX3 yX3_give yX3_give, Cond.code yX3_give cX3_give 7 (some .int), Cond.methodLink RX3 77 yX3_requireHolder, Cond.static yX3_requireHolder, Cond.code yX3_requireHolder cX3_requireHolder 1 none, Cond.methodLink RX3 83 yX0_sharesPlace, Cond.static yX0_sharesPlace, Cond.code yX0_sharesPlace cX0_sharesPlace 2 (some .int), Cond.methodLink RX3 86 yX0_at, Cond.methodLink RX3 90 yX0_add]
def wsL_law0_r12 : List Cond := [Cond.methodLink RL 118 yX4_give, Cond.instanceMethod yX4_give, Cond.selects RX4 yX4_give yX4_give, Cond.code yX4_give cX4_give 5 (some .int), Cond.methodLink RL 119 yX3_snow, Cond.instanceMethod yX3_snow, Cond.selects RX3 yX3_snow yX3_snow, Cond.code yX3_snow cX3_snow 1 (some .int), Cond.methodLink RX3 93 yX0_turnSnow, Cond.instanceMethod yX0_turnSnow, Cond.selects RX0 yX0_turnSnow yX0_turnSnow, Cond.code yX0_turnSnow cX0_turnSnow 2 none, Cond.methodLink RL 122 yX4_snow, Cond.instanceMethod yX4_snow, Cond.selects RX4 yX4_snow yX4_snow, Cond.code yX4_snow cX4_snow 1 (some .int), Cond.methodLink RX4 125 yX4_turnSnow, Cond.instanceMethod yX4_turnSnow, Cond.selects RX4 yX4_turnSnow yX4_turnSnow, Cond.code yX4_turnSnow cX4_turnSnow 2 (some .int), Cond.methodLink RL 123 yL_pass, Cond.static yL_pass, Cond.codeWith yL_pass cL_pass 4 (some .int) [(0, 9, 12, 15)], Cond.methodLink RL 38 yX3_pass]
def wsL_law0_r13 : List Cond := [Cond.instanceMethod yX3_pass, Cond.selects RX3 yX3_pass yX3_pass, Cond.code yX3_pass cX3_pass 2 (some .int), Cond.methodLink RX3 96 yX0_passDays, Cond.instanceMethod yX0_passDays, Cond.selects RX0 yX0_passDays yX0_passDays, Cond.code yX0_passDays cX0_passDays 4 (some .int), Cond.methodLink RX0 49 yX0_weather, Cond.instanceMethod yX0_weather, Cond.selects RX0 yX0_weather yX0_weather, Cond.code yX0_weather cX0_weather 3 none, Cond.methodLink RX0 68 yX0_turvesOn, Cond.instanceMethod yX0_turvesOn, Cond.selects RX0 yX0_turvesOn yX0_turvesOn, Cond.code yX0_turvesOn cX0_turvesOn 7 (some .int), Cond.methodLink RX0 72 yX0_wetAgain, Cond.instanceMethod yX0_wetAgain, Cond.selects RX0 yX0_wetAgain yX0_wetAgain, Cond.code yX0_wetAgain cX0_wetAgain 4 none, Cond.methodLink RX0 78 yX0_halfRoundedUp, Cond.static yX0_halfRoundedUp, Cond.code yX0_halfRoundedUp cX0_halfRoundedUp 1 (some .int), Cond.methodLink RX0 75 yX0_dryOut, Cond.instanceMethod yX0_dryOut]
def wsL_law0_r14 : List Cond := [Cond.selects RX0 yX0_dryOut yX0_dryOut, Cond.code yX0_dryOut cX0_dryOut 5 none, Cond.methodLink RX0 65 Lib.Math.min.name, Cond.methodLink RX0 52 yX0_burn, Cond.instanceMethod yX0_burn, Cond.selects RX0 yX0_burn yX0_burn, Cond.code yX0_burn cX0_burn 4 none, Cond.methodLink RX0 55 yX0_cutTurves, Cond.instanceMethod yX0_cutTurves, Cond.selects RX0 yX0_cutTurves yX0_cutTurves, Cond.code yX0_cutTurves cX0_cutTurves 5 none, Cond.methodLink RX0 58 yX0_rainOf, Cond.instanceMethod yX0_rainOf, Cond.selects RX0 yX0_rainOf yX0_rainOf, Cond.code yX0_rainOf cX0_rainOf 2 (some .int), Cond.methodLink RX0 44 yJ9_floorMod_7cf53, Cond.static yJ9_floorMod_7cf53, Cond.initialized RJ9, Cond.code yJ9_floorMod_7cf53 cJ9_floorMod_7cf53 3 (some .int), Cond.methodLink RX0 61 yX0_goCarts, Cond.instanceMethod yX0_goCarts, Cond.selects RX0 yX0_goCarts yX0_goCarts, Cond.code yX0_goCarts cX0_goCarts 7 (some .int), Cond.methodLink RX0 81 yX0_cartHome]
def wsL_law0_r15 : List Cond := [Cond.instanceMethod yX0_cartHome, Cond.selects RX0 yX0_cartHome yX0_cartHome, Cond.code yX0_cartHome cX0_cartHome 7 (some .int), Cond.methodLink RX0 84 yX0_poorestWidow, Cond.instanceMethod yX0_poorestWidow, Cond.selects RX0 yX0_poorestWidow yX0_poorestWidow, Cond.code yX0_poorestWidow cX0_poorestWidow 3 (some .int), Cond.methodLink RL 125 yX4_pass, Cond.instanceMethod yX4_pass, Cond.selects RX4 yX4_pass yX4_pass, Cond.code yX4_pass cX4_pass 2 (some .int), Cond.methodLink RX4 128 yX4_passes, Cond.instanceMethod yX4_passes, Cond.selects RX4 yX4_passes yX4_passes, Cond.code yX4_passes cX4_passes 4 (some .int), Cond.methodLink RX4 82 yX4_passOne, Cond.instanceMethod yX4_passOne, Cond.selects RX4 yX4_passOne yX4_passOne, Cond.code yX4_passOne cX4_passOne 5 (some .int), Cond.methodLink RX4 63 yX4_rainOf, Cond.instanceMethod yX4_rainOf, Cond.selects RX4 yX4_rainOf yX4_rainOf, Cond.code yX4_rainOf cX4_rainOf 4 (some .int), Cond.constantLong RX4 47 (7)]
def wsL_law0_r16 : List Cond := [Cond.constantLong RX4 49 (10), Cond.methodLink RX4 66 yX4_cutAll, Cond.instanceMethod yX4_cutAll, Cond.selects RX4 yX4_cutAll yX4_cutAll, Cond.code yX4_cutAll cX4_cutAll 5 none, Cond.methodLink RX4 51 yX4_less, Cond.static yX4_less, Cond.code yX4_less cX4_less 2 (some .int), Cond.methodLink RX4 69 yX4_soak, Cond.instanceMethod yX4_soak, Cond.selects RX4 yX4_soak yX4_soak, Cond.code yX4_soak cX4_soak 4 none, Cond.methodLink RX4 73 yX4_dry, Cond.instanceMethod yX4_dry, Cond.selects RX4 yX4_dry yX4_dry, Cond.code yX4_dry cX4_dry 4 none, Cond.methodLink RX4 76 yX4_burnAll, Cond.instanceMethod yX4_burnAll, Cond.selects RX4 yX4_burnAll yX4_burnAll, Cond.code yX4_burnAll cX4_burnAll 3 none, Cond.methodLink RX4 79 yX4_cart, Cond.instanceMethod yX4_cart, Cond.selects RX4 yX4_cart yX4_cart, Cond.code yX4_cart cX4_cart 6 (some .int)]
def wsL_law0_r17 : List Cond := [Cond.methodLink RX4 59 yX4_bringHome, Cond.instanceMethod yX4_bringHome, Cond.selects RX4 yX4_bringHome yX4_bringHome, Cond.code yX4_bringHome cX4_bringHome 6 none, Cond.methodLink RX4 55 yX4_poorest, Cond.instanceMethod yX4_poorest, Cond.selects RX4 yX4_poorest yX4_poorest, Cond.code yX4_poorest cX4_poorest 4 (some .int), Cond.methodLink RL 126 yL_set, Cond.static yL_set, Cond.codeWith yL_set cL_set 5 (some .int) [(0, 10, 13, 13), (0, 10, 17, 15)], Cond.methodLink RL 41 yX3_set, Cond.instanceMethod yX3_set, Cond.selects RX3 yX3_set yX3_set, Cond.code yX3_set cX3_set 3 (some .int), Cond.fieldLink RX3 99 "PeatHearths" "LOWEST_SETTING" "[I", Cond.fieldLink RX3 103 "PeatHearths" "HIGHEST_SETTING" "[I", Cond.methodLink RL 128 yX4_set, Cond.instanceMethod yX4_set, Cond.selects RX4 yX4_set yX4_set, Cond.code yX4_set cX4_set 4 (some .int), Cond.methodLink RX4 131 yX4_leastOf, Cond.static yX4_leastOf, Cond.code yX4_leastOf cX4_leastOf 1 (some .int)]
def wsL_law0_r18 : List Cond := [Cond.methodLink RX4 134 yX4_mostOf, Cond.static yX4_mostOf, Cond.code yX4_mostOf cX4_mostOf 1 (some .int), Cond.methodLink RL 129 yL_append, Cond.static yL_append, Cond.codeWith yL_append cL_append 4 (some .int) [(0, 9, 12, 15), (0, 9, 15, 28)], Cond.methodLink RL 44 yX3_append, Cond.instanceMethod yX3_append, Cond.selects RX3 yX3_append yX3_append, Cond.code yX3_append cX3_append 2 (some .int), Cond.methodLink RX3 106 yX2_length, Cond.instanceMethod yX2_length, Cond.selects RX2 yX2_length yX2_length, Cond.code yX2_length cX2_length 1 (some .int), Cond.fieldLink RX2 15 "PeatHearths$Text" "length" "I", Cond.methodLink RX3 109 yX2_push, Cond.instanceMethod yX2_push, Cond.selects RX2 yX2_push yX2_push, Cond.code yX2_push cX2_push 2 none, Cond.methodLink RL 131 yX4_append, Cond.instanceMethod yX4_append, Cond.selects RX4 yX4_append yX4_append, Cond.code yX4_append cX4_append 2 (some .int), Cond.fieldLink RX4 137 "PeatHearthsModel" "length" "I"]
def wsL_law0_r19 : List Cond := [Cond.methodLink RL 132 yX3_clearBuffer, Cond.instanceMethod yX3_clearBuffer, Cond.selects RX3 yX3_clearBuffer yX3_clearBuffer, Cond.code yX3_clearBuffer cX3_clearBuffer 2 (some .int), Cond.methodLink RX3 112 yX2_wipe, Cond.instanceMethod yX2_wipe, Cond.selects RX2 yX2_wipe yX2_wipe, Cond.code yX2_wipe cX2_wipe 1 none, Cond.methodLink RL 135 yX4_clearBuffer, Cond.instanceMethod yX4_clearBuffer, Cond.selects RX4 yX4_clearBuffer yX4_clearBuffer, Cond.code yX4_clearBuffer cX4_clearBuffer 2 (some .int), Cond.methodLink RL 136 yX3_firstError, Cond.instanceMethod yX3_firstError, Cond.selects RX3 yX3_firstError yX3_firstError, Cond.code yX3_firstError cX3_firstError 1 (some .int), Cond.methodLink RX3 115 yX2_rightSigns, Cond.instanceMethod yX2_rightSigns, Cond.selects RX2 yX2_rightSigns yX2_rightSigns, Cond.code yX2_rightSigns cX2_rightSigns 3 (some .int), Cond.methodLink RX2 19 yX2_signAt, Cond.instanceMethod yX2_signAt, Cond.selects RX2 yX2_signAt yX2_signAt, Cond.code yX2_signAt cX2_signAt 2 (some .char)]
def wsL_law0_r20 : List Cond := [Cond.methodLink RX2 23 yX2_readNext, Cond.static yX2_readNext, Cond.code yX2_readNext cX2_readNext 2 (some .int), Cond.methodLink RX2 27 yX2_endsPart, Cond.static yX2_endsPart, Cond.code yX2_endsPart cX2_endsPart 1 (some .boolean), Cond.methodLink RX2 35 yX2_beginPart, Cond.static yX2_beginPart, Cond.code yX2_beginPart cX2_beginPart 1 (some .int), Cond.methodLink RX2 31 yX2_isDigit, Cond.static yX2_isDigit, Cond.code yX2_isDigit cX2_isDigit 2 (some .boolean), Cond.methodLink RX2 39 yX2_beginDays, Cond.static yX2_beginDays, Cond.code yX2_beginDays cX2_beginDays 1 (some .int), Cond.methodLink RL 139 yX4_firstError, Cond.instanceMethod yX4_firstError, Cond.selects RX4 yX4_firstError yX4_firstError, Cond.code yX4_firstError cX4_firstError 2 (some .int), Cond.methodLink RX4 174 yX4_findError, Cond.instanceMethod yX4_findError, Cond.selects RX4 yX4_findError yX4_findError, Cond.code yX4_findError cX4_findError 1 (some .int), Cond.fieldLink RX4 140 "PeatHearthsModel" "at" "I"]
def wsL_law0_r21 : List Cond := [Cond.methodLink RX4 171 yX4_readsPart, Cond.instanceMethod yX4_readsPart, Cond.selects RX4 yX4_readsPart yX4_readsPart, Cond.code yX4_readsPart cX4_readsPart 1 (some .boolean), Cond.fieldLink RX4 161 "PeatHearthsModel" "sign" "I", Cond.fieldLink RX4 149 "PeatHearthsModel" "first" "I", Cond.methodLink RX4 143 yX4_next, Cond.instanceMethod yX4_next, Cond.selects RX4 yX4_next yX4_next, Cond.code yX4_next cX4_next 1 (some .int), Cond.methodLink RX4 146 yX4_takeDigit, Cond.instanceMethod yX4_takeDigit, Cond.selects RX4 yX4_takeDigit yX4_takeDigit, Cond.code yX4_takeDigit cX4_takeDigit 4 (some .int), Cond.methodLink RX4 164 yX4_readsWork, Cond.instanceMethod yX4_readsWork, Cond.selects RX4 yX4_readsWork yX4_readsWork, Cond.code yX4_readsWork cX4_readsWork 1 (some .boolean), Cond.fieldLink RX4 155 "PeatHearthsModel" "second" "I", Cond.fieldLink RX4 158 "PeatHearthsModel" "third" "I", Cond.methodLink RX4 152 yX4_takes, Cond.instanceMethod yX4_takes, Cond.selects RX4 yX4_takes yX4_takes, Cond.code yX4_takes cX4_takes 3 (some .boolean)]
def wsL_law0_r22 : List Cond := [Cond.methodLink RX4 168 yX4_readsDays, Cond.instanceMethod yX4_readsDays, Cond.selects RX4 yX4_readsDays yX4_readsDays, Cond.code yX4_readsDays cX4_readsDays 2 (some .boolean), Cond.methodLink RL 140 yL_play, Cond.static yL_play, Cond.codeWith yL_play cL_play 3 (some .int) [(0, 8, 11, 15)], Cond.methodLink RL 47 yX3_play, Cond.instanceMethod yX3_play, Cond.selects RX3 yX3_play yX3_play, Cond.code yX3_play cX3_play 3 (some .int), Cond.methodLink RX3 118 yX2_isComplete, Cond.instanceMethod yX2_isComplete, Cond.selects RX2 yX2_isComplete yX2_isComplete, Cond.code yX2_isComplete cX2_isComplete 3 (some .boolean), Cond.methodLink RX3 122 yX2_isPartBegin, Cond.instanceMethod yX2_isPartBegin, Cond.selects RX2 yX2_isPartBegin yX2_isPartBegin, Cond.code yX2_isPartBegin cX2_isPartBegin 2 (some .boolean), Cond.methodLink RX3 126 yX3_playPart, Cond.instanceMethod yX3_playPart, Cond.selects RX3 yX3_playPart yX3_playPart, Cond.code yX3_playPart cX3_playPart 6 (some .boolean), Cond.methodLink RX3 211 yX2_signAt]
def wsL_law0_r23 : List Cond := [Cond.methodLink RX3 221 yX2_numberAt, Cond.instanceMethod yX2_numberAt, Cond.selects RX2 yX2_numberAt yX2_numberAt, Cond.code yX2_numberAt cX2_numberAt 3 (some .int), Cond.methodLink RL 143 yX4_play, Cond.instanceMethod yX4_play, Cond.selects RX4 yX4_play yX4_play, Cond.code yX4_play cX4_play 3 (some .int), Cond.methodLink RX4 177 yX4_doesPart, Cond.instanceMethod yX4_doesPart, Cond.selects RX4 yX4_doesPart yX4_doesPart, Cond.code yX4_doesPart cX4_doesPart 1 (some .boolean), Cond.methodLink RL 144 yL_undo, Cond.static yL_undo, Cond.codeWith yL_undo cL_undo 3 (some .int) [(0, 8, 11, 28)], Cond.methodLink RL 51 yX3_undo, Cond.instanceMethod yX3_undo, Cond.selects RX3 yX3_undo yX3_undo, Cond.code yX3_undo cX3_undo 1 (some .int), Cond.methodLink RX3 129 yX1_size, Cond.instanceMethod yX1_size, Cond.selects RX1 yX1_size yX1_size, Cond.code yX1_size cX1_size 1 (some .int), Cond.methodLink RX3 132 yX1_showTop]
def wsL_law0_r24 : List Cond := [Cond.instanceMethod yX1_showTop, Cond.selects RX1 yX1_showTop yX1_showTop, Cond.code yX1_showTop cX1_showTop 4 none, Cond.methodLink RX1 44 yX0_put, Cond.methodLink RX3 135 yX1_dropTop, Cond.instanceMethod yX1_dropTop, Cond.selects RX1 yX1_dropTop yX1_dropTop, Cond.code yX1_dropTop cX1_dropTop 1 none, Cond.methodLink RL 146 yX4_undo, Cond.instanceMethod yX4_undo, Cond.selects RX4 yX4_undo yX4_undo, Cond.code yX4_undo cX4_undo 2 (some .int), Cond.methodLink RL 147 yX3_keep, Cond.instanceMethod yX3_keep, Cond.selects RX3 yX3_keep yX3_keep, Cond.code yX3_keep cX3_keep 1 (some .int), Cond.methodLink RL 150 yX4_keep, Cond.instanceMethod yX4_keep, Cond.selects RX4 yX4_keep yX4_keep, Cond.code yX4_keep cX4_keep 2 (some .int), Cond.fieldLink RX4 40 "PeatHearthsModel" "hasSnapshot" "Z", Cond.methodLink RL 151 yL_restore, Cond.static yL_restore, Cond.codeWith yL_restore cL_restore 3 (some .int) [(0, 8, 11, 28)]]
def wsL_law0_r25 : List Cond := [Cond.methodLink RL 54 yX3_restore, Cond.instanceMethod yX3_restore, Cond.selects RX3 yX3_restore yX3_restore, Cond.code yX3_restore cX3_restore 1 (some .int), Cond.methodLink RL 153 yX4_restore, Cond.instanceMethod yX4_restore, Cond.selects RX4 yX4_restore yX4_restore, Cond.code yX4_restore cX4_restore 2 (some .int), Cond.methodLink RL 154 yL_hearthOf, Cond.static yL_hearthOf, Cond.codeWith yL_hearthOf cL_hearthOf 5 (some .int) [(0, 10, 13, 13), (0, 10, 17, 15)], Cond.methodLink RL 57 yX3_hearthOf, Cond.instanceMethod yX3_hearthOf, Cond.selects RX3 yX3_hearthOf yX3_hearthOf, Cond.code yX3_hearthOf cX3_hearthOf 3 (some .int), Cond.methodLink RX3 138 yX0_ofHearth, Cond.instanceMethod yX0_ofHearth, Cond.selects RX0 yX0_ofHearth yX0_ofHearth, Cond.code yX0_ofHearth cX0_ofHearth 3 (some .int), Cond.methodLink RX0 90 yX0_shortBy, Cond.instanceMethod yX0_shortBy, Cond.selects RX0 yX0_shortBy yX0_shortBy, Cond.code yX0_shortBy cX0_shortBy 2 (some .int), Cond.methodLink RX0 87 Lib.Math.max.name]
def wsL_law0_r26 : List Cond := [Cond.methodLink RX0 93 yX0_willBeShortBy, Cond.instanceMethod yX0_willBeShortBy, Cond.selects RX0 yX0_willBeShortBy yX0_willBeShortBy, Cond.code yX0_willBeShortBy cX0_willBeShortBy 2 (some .int), Cond.methodLink RX0 96 yX0_willBeShortByTheBook, Cond.instanceMethod yX0_willBeShortByTheBook, Cond.selects RX0 yX0_willBeShortByTheBook yX0_willBeShortByTheBook, Cond.code yX0_willBeShortByTheBook cX0_willBeShortByTheBook 4 (some .int), Cond.methodLink RL 156 yX4_hearthOf, Cond.instanceMethod yX4_hearthOf, Cond.selects RX4 yX4_hearthOf yX4_hearthOf, Cond.code yX4_hearthOf cX4_hearthOf 3 (some .int), Cond.methodLink RX4 189 yX4_tellsHearth, Cond.instanceMethod yX4_tellsHearth, Cond.selects RX4 yX4_tellsHearth yX4_tellsHearth, Cond.code yX4_tellsHearth cX4_tellsHearth 3 (some .int), Cond.methodLink RX4 100 yX4_ofHearth, Cond.instanceMethod yX4_ofHearth, Cond.selects RX4 yX4_ofHearth yX4_ofHearth, Cond.code yX4_ofHearth cX4_ofHearth 4 (some .int), Cond.methodLink RX4 94 yX4_turvesOn, Cond.instanceMethod yX4_turvesOn, Cond.selects RX4 yX4_turvesOn yX4_turvesOn, Cond.code yX4_turvesOn cX4_turvesOn 4 (some .int)]
def wsL_law0_r27 : List Cond := [Cond.methodLink RX4 180 yX4_shortNow, Cond.instanceMethod yX4_shortNow, Cond.selects RX4 yX4_shortNow yX4_shortNow, Cond.code yX4_shortNow cX4_shortNow 2 (some .int), Cond.methodLink RX4 97 yX4_atLeastNone, Cond.static yX4_atLeastNone, Cond.code yX4_atLeastNone cX4_atLeastNone 1 (some .int), Cond.methodLink RX4 183 yX4_shortThen, Cond.instanceMethod yX4_shortThen, Cond.selects RX4 yX4_shortThen yX4_shortThen, Cond.code yX4_shortThen cX4_shortThen 2 (some .int), Cond.methodLink RX4 186 yX4_shortByBook, Cond.instanceMethod yX4_shortByBook, Cond.selects RX4 yX4_shortByBook yX4_shortByBook, Cond.code yX4_shortByBook cX4_shortByBook 3 (some .int), Cond.methodLink RL 157 yL_bankOf, Cond.static yL_bankOf, Cond.codeWith yL_bankOf cL_bankOf 5 (some .int) [(0, 10, 13, 13), (0, 10, 17, 15)], Cond.methodLink RL 60 yX3_bankOf, Cond.instanceMethod yX3_bankOf, Cond.selects RX3 yX3_bankOf yX3_bankOf, Cond.code yX3_bankOf cX3_bankOf 3 (some .int), Cond.methodLink RX3 141 yX0_ofBank, Cond.instanceMethod yX0_ofBank]
def wsL_law0_r28 : List Cond := [Cond.selects RX0 yX0_ofBank yX0_ofBank, Cond.code yX0_ofBank cX0_ofBank 3 (some .int), Cond.methodLink RL 159 yX4_bankOf, Cond.instanceMethod yX4_bankOf, Cond.selects RX4 yX4_bankOf yX4_bankOf, Cond.code yX4_bankOf cX4_bankOf 3 (some .int), Cond.methodLink RX4 195 yX4_tellsBank, Cond.instanceMethod yX4_tellsBank, Cond.selects RX4 yX4_tellsBank yX4_tellsBank, Cond.code yX4_tellsBank cX4_tellsBank 3 (some .int), Cond.methodLink RX4 192 yX4_lieOn, Cond.instanceMethod yX4_lieOn, Cond.selects RX4 yX4_lieOn yX4_lieOn, Cond.code yX4_lieOn cX4_lieOn 4 (some .int), Cond.methodLink RL 160 yL_plot, Cond.static yL_plot, Cond.codeWith yL_plot cL_plot 6 (some .int) [(0, 12, 15, 13), (0, 12, 19, 15)], Cond.methodLink RL 63 yX3_plot, Cond.instanceMethod yX3_plot, Cond.selects RX3 yX3_plot yX3_plot, Cond.code yX3_plot cX3_plot 4 (some .int), Cond.methodLink RX3 144 yX0_ofPlot, Cond.instanceMethod yX0_ofPlot, Cond.selects RX0 yX0_ofPlot yX0_ofPlot]
def wsL_law0_r29 : List Cond := [Cond.code yX0_ofPlot cX0_ofPlot 5 (some .int), Cond.methodLink RL 162 yX4_plot, Cond.instanceMethod yX4_plot, Cond.selects RX4 yX4_plot yX4_plot, Cond.code yX4_plot cX4_plot 4 (some .int), Cond.methodLink RX4 198 yX4_tellsPlot, Cond.instanceMethod yX4_tellsPlot, Cond.selects RX4 yX4_tellsPlot yX4_tellsPlot, Cond.code yX4_tellsPlot cX4_tellsPlot 5 (some .int), Cond.methodLink RL 163 yL_cutter, Cond.static yL_cutter, Cond.codeWith yL_cutter cL_cutter 5 (some .int) [(0, 10, 13, 13), (0, 10, 17, 15)], Cond.methodLink RL 66 yX3_cutter, Cond.instanceMethod yX3_cutter, Cond.selects RX3 yX3_cutter yX3_cutter, Cond.code yX3_cutter cX3_cutter 3 (some .int), Cond.methodLink RX3 148 yX0_ofCutter, Cond.instanceMethod yX0_ofCutter, Cond.selects RX0 yX0_ofCutter yX0_ofCutter, Cond.code yX0_ofCutter cX0_ofCutter 3 (some .int), Cond.methodLink RL 165 yX4_cutter, Cond.instanceMethod yX4_cutter, Cond.selects RX4 yX4_cutter yX4_cutter, Cond.code yX4_cutter cX4_cutter 3 (some .int)]
def wsL_law0_r30 : List Cond := [Cond.methodLink RX4 202 yX4_tellsCutter, Cond.instanceMethod yX4_tellsCutter, Cond.selects RX4 yX4_tellsCutter yX4_tellsCutter, Cond.code yX4_tellsCutter cX4_tellsCutter 3 (some .int), Cond.methodLink RL 166 yL_rain, Cond.static yL_rain, Cond.codeWith yL_rain cL_rain 4 (some .int) [(0, 9, 12, 15)], Cond.methodLink RL 69 yX3_rain, Cond.instanceMethod yX3_rain, Cond.selects RX3 yX3_rain yX3_rain, Cond.code yX3_rain cX3_rain 2 (some .int), Cond.methodLink RX3 151 yX0_rainOf, Cond.methodLink RL 168 yX4_rain, Cond.instanceMethod yX4_rain, Cond.selects RX4 yX4_rain yX4_rain, Cond.code yX4_rain cX4_rain 2 (some .int), Cond.methodLink RL 169 yL_count, Cond.static yL_count, Cond.codeWith yL_count cL_count 4 (some .int) [(0, 9, 12, 15)], Cond.methodLink RL 72 yX3_count, Cond.instanceMethod yX3_count, Cond.selects RX3 yX3_count yX3_count, Cond.code yX3_count cX3_count 2 (some .int), Cond.methodLink RX3 154 yX0_ofAll]
def wsL_law0_r31 : List Cond := [Cond.instanceMethod yX0_ofAll, Cond.selects RX0 yX0_ofAll yX0_ofAll, Cond.code yX0_ofAll cX0_ofAll 2 (some .int), Cond.methodLink RX0 99 yX0_cuttersAtWork, Cond.methodLink RX0 102 yX0_sum, Cond.instanceMethod yX0_sum, Cond.selects RX0 yX0_sum yX0_sum, Cond.code yX0_sum cX0_sum 5 (some .int), Cond.methodLink RX0 105 yX0_turvesOnBanks, Cond.instanceMethod yX0_turvesOnBanks, Cond.selects RX0 yX0_turvesOnBanks yX0_turvesOnBanks, Cond.code yX0_turvesOnBanks cX0_turvesOnBanks 1 (some .int), Cond.methodLink RX0 108 yX0_hearthsShort, Cond.instanceMethod yX0_hearthsShort, Cond.selects RX0 yX0_hearthsShort yX0_hearthsShort, Cond.code yX0_hearthsShort cX0_hearthsShort 3 (some .int), Cond.methodLink RX0 111 yX0_hearthsThatWillBeShort, Cond.instanceMethod yX0_hearthsThatWillBeShort, Cond.selects RX0 yX0_hearthsThatWillBeShort yX0_hearthsThatWillBeShort, Cond.code yX0_hearthsThatWillBeShort cX0_hearthsThatWillBeShort 3 (some .int), Cond.methodLink RL 171 yX4_count, Cond.instanceMethod yX4_count, Cond.selects RX4 yX4_count yX4_count, Cond.code yX4_count cX4_count 2 (some .int)]
def wsL_law0_r32 : List Cond := [Cond.methodLink RX4 212 yX4_tellsCount, Cond.instanceMethod yX4_tellsCount, Cond.selects RX4 yX4_tellsCount yX4_tellsCount, Cond.code yX4_tellsCount cX4_tellsCount 2 (some .int), Cond.methodLink RX4 205 yX4_sumOf, Cond.instanceMethod yX4_sumOf, Cond.selects RX4 yX4_sumOf yX4_sumOf, Cond.code yX4_sumOf cX4_sumOf 5 (some .int), Cond.methodLink RX4 208 yX4_shortHearths, Cond.instanceMethod yX4_shortHearths, Cond.selects RX4 yX4_shortHearths yX4_shortHearths, Cond.code yX4_shortHearths cX4_shortHearths 5 (some .int), Cond.methodLink RL 172 yL_whyNot, Cond.static yL_whyNot, Cond.codeWith yL_whyNot cL_whyNot 6 (some .int) [(0, 12, 15, 13)], Cond.methodLink RL 75 yX3_whyNot, Cond.instanceMethod yX3_whyNot, Cond.selects RX3 yX3_whyNot yX3_whyNot, Cond.code yX3_whyNot cX3_whyNot 4 (some .int), Cond.methodLink RL 174 yX4_whyNot, Cond.instanceMethod yX4_whyNot, Cond.selects RX4 yX4_whyNot yX4_whyNot, Cond.code yX4_whyNot cX4_whyNot 4 (some .int), Cond.methodLink RL 175 yL_ifPassed]
def wsL_law0_r33 : List Cond := [Cond.static yL_ifPassed, Cond.codeWith yL_ifPassed cL_ifPassed 5 (some .int) [(0, 10, 13, 15)], Cond.methodLink RL 78 yX3_ifPassed, Cond.instanceMethod yX3_ifPassed, Cond.selects RX3 yX3_ifPassed yX3_ifPassed, Cond.code yX3_ifPassed cX3_ifPassed 4 (some .int), Cond.methodLink RX3 157 yX0_copyFrom, Cond.instanceMethod yX0_copyFrom, Cond.selects RX0 yX0_copyFrom yX0_copyFrom, Cond.code yX0_copyFrom cX0_copyFrom 3 none, Cond.methodLink RX3 160 yX0_hearthsShort, Cond.methodLink RX3 163 yX0_sum, Cond.methodLink RL 177 yX4_ifPassed, Cond.instanceMethod yX4_ifPassed, Cond.selects RX4 yX4_ifPassed yX4_ifPassed, Cond.code yX4_ifPassed cX4_ifPassed 3 (some .int), Cond.methodLink RX4 221 yX4_wouldPass, Cond.instanceMethod yX4_wouldPass, Cond.selects RX4 yX4_wouldPass yX4_wouldPass, Cond.code yX4_wouldPass cX4_wouldPass 6 (some .int), Cond.methodLink RX4 215 yX4_putAside, Cond.instanceMethod yX4_putAside, Cond.selects RX4 yX4_putAside yX4_putAside, Cond.code yX4_putAside cX4_putAside 2 none]
def wsL_law0_r34 : List Cond := [Cond.methodLink RX4 218 yX4_takeBack, Cond.instanceMethod yX4_takeBack, Cond.selects RX4 yX4_takeBack yX4_takeBack, Cond.code yX4_takeBack cX4_takeBack 2 none, Cond.methodLink RL 178 yL_enoughIn, Cond.static yL_enoughIn, Cond.codeWith yL_enoughIn cL_enoughIn 4 (some .int) [(0, 9, 12, 13)], Cond.methodLink RL 81 yX3_enoughIn, Cond.instanceMethod yX3_enoughIn, Cond.selects RX3 yX3_enoughIn yX3_enoughIn, Cond.code yX3_enoughIn cX3_enoughIn 3 (some .int), Cond.methodLink RX3 166 yX0_shortBy, Cond.methodLink RL 180 yX4_enoughIn, Cond.instanceMethod yX4_enoughIn, Cond.selects RX4 yX4_enoughIn yX4_enoughIn, Cond.code yX4_enoughIn cX4_enoughIn 2 (some .int), Cond.methodLink RX4 224 yX4_daysUntil, Cond.instanceMethod yX4_daysUntil, Cond.selects RX4 yX4_daysUntil yX4_daysUntil, Cond.code yX4_daysUntil cX4_daysUntil 3 (some .int), Cond.methodLink RL 181 yL_bestBank, Cond.static yL_bestBank, Cond.codeWith yL_bestBank cL_bestBank 5 (some .int) [(0, 10, 13, 13)], Cond.methodLink RL 84 yX3_bestBank]
def wsL_law0_r35 : List Cond := [Cond.instanceMethod yX3_bestBank, Cond.selects RX3 yX3_bestBank yX3_bestBank, Cond.code yX3_bestBank cX3_bestBank 7 (some .int), Cond.methodLink RL 183 yX4_bestBank, Cond.instanceMethod yX4_bestBank, Cond.selects RX4 yX4_bestBank yX4_bestBank, Cond.code yX4_bestBank cX4_bestBank 3 (some .int), Cond.methodLink RX4 230 yX4_bestFor, Cond.instanceMethod yX4_bestFor, Cond.selects RX4 yX4_bestFor yX4_bestFor, Cond.code yX4_bestFor cX4_bestFor 8 (some .int), Cond.methodLink RX4 227 yX4_homeWith, Cond.instanceMethod yX4_homeWith, Cond.selects RX4 yX4_homeWith yX4_homeWith, Cond.code yX4_homeWith cX4_homeWith 5 (some .int), Cond.methodLink RL 184 yX3_dryness, Cond.instanceMethod yX3_dryness, Cond.selects RX3 yX3_dryness yX3_dryness, Cond.code yX3_dryness cX3_dryness 2 (some .double), Cond.methodLink RX3 169 yX0_turvesOnBanks, Cond.methodLink RL 188 yX4_dryness, Cond.instanceMethod yX4_dryness, Cond.selects RX4 yX4_dryness yX4_dryness, Cond.code yX4_dryness cX4_dryness 1 (some .double)]
def wsL_law0_r36 : List Cond := [Cond.methodLink RX4 233 yX4_share, Cond.instanceMethod yX4_share, Cond.selects RX4 yX4_share yX4_share, Cond.code yX4_share cX4_share 2 (some .double), Cond.methodLink RL 189 yX3_digest, Cond.instanceMethod yX3_digest, Cond.selects RX3 yX3_digest yX3_digest, Cond.code yX3_digest cX3_digest 6 (some .long), Cond.constantLong RX3 172 (3739), Cond.constantLong RX3 174 (31), Cond.methodLink RX3 176 yX3_count, Cond.methodLink RX3 179 yX3_hearthOf, Cond.methodLink RX3 182 yX3_plot, Cond.methodLink RX3 185 yX3_enoughIn, Cond.methodLink RX3 188 yX3_bestBank, Cond.methodLink RX3 191 yX3_bankOf, Cond.methodLink RX3 194 yX3_cutter, Cond.methodLink RX3 197 yX3_rain, Cond.methodLink RX3 200 yX3_ifPassed, Cond.methodLink RX3 203 yX3_dryness, Cond.methodLink RX3 207 yX3_bitsOf, Cond.static yX3_bitsOf, Cond.code yX3_bitsOf cX3_bitsOf 7 (some .long), Cond.constantLong RX3 215 (1023)]
def wsL_law0_r37 : List Cond := [Cond.constantDouble RX3 217 (4611686018427387904), Cond.constantDouble RX3 219 (4841369599423283200), Cond.methodLink RL 193 yX4_digest, Cond.instanceMethod yX4_digest, Cond.selects RX4 yX4_digest yX4_digest, Cond.code yX4_digest cX4_digest 2 (some .long), Cond.constantLong RX4 247 (3739), Cond.fieldLink RX4 239 "PeatHearthsModel" "hash" "J", Cond.methodLink RX4 243 yX4_mix, Cond.instanceMethod yX4_mix, Cond.selects RX4 yX4_mix yX4_mix, Cond.code yX4_mix cX4_mix 3 none, Cond.constantLong RX4 237 (31), Cond.methodLink RX4 249 yX4_mixHearth, Cond.instanceMethod yX4_mixHearth, Cond.selects RX4 yX4_mixHearth yX4_mixHearth, Cond.code yX4_mixHearth cX4_mixHearth 3 none, Cond.methodLink RX4 252 yJxe99ae_doubleToLongBits_ccdee, Cond.static yJxe99ae_doubleToLongBits_ccdee, Cond.initialized RJxe99ae, Cond.code yJxe99ae_doubleToLongBits_ccdee cJxe99ae_doubleToLongBits_ccdee 2 (some .long), Cond.methodLink RJxe99ae 134 ⟨"java/lang/Double", "doubleToRawLongBits", "(D)J"⟩, Cond.native ⟨"java/lang/Double", "doubleToRawLongBits", "(D)J"⟩, Cond.static ⟨"java/lang/Double", "doubleToRawLongBits", "(D)J"⟩]
def wsL_law0_r38 : List Cond := [Cond.initialized "java/lang/Double", Cond.constantLong RJxe99ae 137 (9221120237041090560), Cond.methodLink RJxe99ae 122 yJxe99ae_isNaN_b9ae7, Cond.static yJxe99ae_isNaN_b9ae7, Cond.code yJxe99ae_isNaN_b9ae7 cJxe99ae_isNaN_b9ae7 2 (some .boolean)]
def wsL_law0 : List Cond := (wsL_law0_r1 ++ (wsL_law0_r2 ++ (wsL_law0_r3 ++ (wsL_law0_r4 ++ (wsL_law0_r5 ++ (wsL_law0_r6 ++ (wsL_law0_r7 ++ (wsL_law0_r8 ++ (wsL_law0_r9 ++ (wsL_law0_r10 ++ (wsL_law0_r11 ++ (wsL_law0_r12 ++ (wsL_law0_r13 ++ (wsL_law0_r14 ++ (wsL_law0_r15 ++ (wsL_law0_r16 ++ (wsL_law0_r17 ++ (wsL_law0_r18 ++ (wsL_law0_r19 ++ (wsL_law0_r20 ++ (wsL_law0_r21 ++ (wsL_law0_r22 ++ (wsL_law0_r23 ++ (wsL_law0_r24 ++ (wsL_law0_r25 ++ (wsL_law0_r26 ++ (wsL_law0_r27 ++ (wsL_law0_r28 ++ (wsL_law0_r29 ++ (wsL_law0_r30 ++ (wsL_law0_r31 ++ (wsL_law0_r32 ++ (wsL_law0_r33 ++ (wsL_law0_r34 ++ (wsL_law0_r35 ++ (wsL_law0_r36 ++ (wsL_law0_r37 ++ wsL_law0_r38))))))))))))))))))))))))))))))))))))) ++ wsX30 ++ wsX40 ++ wsX00 ++ wsX10 ++ wsX20 ++ ([] : List Cond)
def wsL_law : List Cond := wsL_law0 ++ (vx_atS RX3 228 "java/lang/IndexOutOfBoundsException" ["java/lang/RuntimeException", "java/lang/Exception"]).filter goodWord ++ (vx_atS RX3 235 "java/lang/IllegalArgumentException" ["java/lang/RuntimeException", "java/lang/Exception"]).filter goodWord ++ (vx_atS RX3 240 "java/lang/IllegalStateException" ["java/lang/RuntimeException", "java/lang/Exception"]).filter goodWord
abbrev vwCl : List vw_C := [(RX0, TX0, 1), (RX1, TX1, 4), (RX2, TX2, 2), (RX3, TX3, 5), (RX4, TX4, 15)]
end
section
/-! MINI: a method's frame over a world of numbered places: 'GG .. pc L st w' says that the machine goes from there to the end X. Own rows over the kit's. -/
abbrev mj_C : Type := (FieldType × vp_A) ⊕ (Nat × List Value)
abbrev mj_W : Type := List mj_C
abbrev mj_L : Type := List (Option Value)
abbrev mj_R : Type := (Option Value × mj_W) ⊕ (String × mj_W)
/-- own class, maxLocals, words, room, whether it makes an object, the handlers where they are known -/
abbrev mj_M : Type := String × Nat × List Cond × Room × Bool × Option (List ExceptionTableEntry)
def mj_v (ad : Nat → Nat) (v : Value) : Value := match v with
  | .ref k => .ref (ad k)
  | v => v
def mj_e (ad : Nat → Nat) (cy : Nat → ClassId) (p : Nat) (c : mj_C) : Nat × va_E := (ad p, match c with
  | .inl a => .inl (cy p, a.2)
  | .inr o => .inr (o.1, o.2.map (mj_v ad)))
def mj_w (ad : Nat → Nat) (cy : Nat → ClassId) (w : mj_W) : va_W := w.mapIdx (mj_e ad cy)
theorem mj_w_get {ad : Nat → Nat} {cy : Nat → ClassId} {w : mj_W} {p : Nat} {c : mj_C} (h : w[p]? = some c) : (mj_w ad cy w)[p]? = some (mj_e ad cy p c) := by
  simp [mj_w, h]
theorem mj_w_set {ad : Nat → Nat} {cy : Nat → ClassId} {w : mj_W} {p : Nat} {c : mj_C} : (mj_w ad cy w).set p (mj_e ad cy p c) = mj_w ad cy (w.set p c) := by
  simp [mj_w, List.mapIdx_set]
/-- the arrays' classes -/
def mj_T (cy : Nat → ClassId) (w : mj_W) (U : State) : Prop := ∀ (p : Nat) (a : FieldType × vp_A), w[p]? = some (.inl a) → ArrOfT U (cy p) a.1 ∧ va_RA U (cy p) a.1
theorem mj_T.moved {cy : Nat → ClassId} {w : mj_W} {u U : State} (hvm : u.vm.Alike U.vm) (h : mj_T cy w u) : mj_T cy w U := fun p a hp => ⟨arrOfT_moved hvm (h p a hp).1, (h p a hp).2.moved hvm⟩
theorem mj_T.set {cy : Nat → ClassId} {w : mj_W} {U : State} {p : Nat} {ty : FieldType} {a b : vp_A} (h : mj_T cy w U) (hp : w[p]? = some (.inl (ty, a))) : mj_T cy (w.set p (.inl (ty, b))) U := by
  intro q c hq
  rw [List.getElem?_set] at hq
  by_cases hpq : p = q
  · subst hpq
    rw [if_pos rfl] at hq
    split at hq
    · cases hq
      exact h p (ty, a) hp
    · cases hq
  · rw [if_neg hpq] at hq
    exact h q c hq
theorem mj_T.setO {cy : Nat → ClassId} {w : mj_W} {U : State} {p : Nat} {o : Nat × List Value} (h : mj_T cy w U) : mj_T cy (w.set p (.inr o)) U := by
  intro q c hq
  rw [List.getElem?_set] at hq
  by_cases hpq : p = q
  · subst hpq
    rw [if_pos rfl] at hq
    split at hq <;> cases hq
  · rw [if_neg hpq] at hq
    exact h q c hq
def mj_P (D : va_G) (A : Nat → Prop) (ad : Nat → Nat) (cy : Nat → ClassId) (w : mj_W) (s : State) (H : Heap) : Prop := va_P D vwCl (mj_w ad cy w) H ∧ va_D A (mj_w ad cy w) ∧ mj_T cy w s
theorem mj_K1 {D : va_G} {s : State} {cA : ClassId} {ty : FieldType} (hK : va_K D vwCl [] s) (h : ArrOfT s cA ty ∧ va_RA s cA ty) : va_K D vwCl [(cA, ty)] s := ⟨hK.1, fun k q hq => by
  cases k with
  | zero => cases hq; exact h
  | succ k => cases hq⟩
/-! locals -/
def mj_lv (ad : Nat → Nat) (L : mj_L) : List (Nat × Value) := (List.range L.length).filterMap (fun i => (L[i]?.join).map (fun v => (i, mj_v ad v)))
theorem mj_lv_mem {ad : Nat → Nat} {L : mj_L} {i : Nat} {x : Value} : (i, x) ∈ mj_lv ad L ↔ ∃ v, L[i]? = some (some v) ∧ x = mj_v ad v := by
  simp only [mj_lv, List.mem_filterMap, List.mem_range, Option.map_eq_some_iff]
  constructor
  · rintro ⟨j, hj, v, hv, he⟩
    cases he
    refine ⟨v, ?_, rfl⟩
    cases hc : L[i]? with
    | none => rw [hc] at hv; cases hv
    | some o => rw [hc] at hv; exact congrArg some hv
  · rintro ⟨v, hv, rfl⟩
    refine ⟨i, (List.getElem?_eq_some_iff.mp hv).1, v, ?_, rfl⟩
    rw [hv]; rfl
def mj_l (ad : Nat → Nat) (ls : Array Slot) (nl : Nat) (L : mj_L) : Prop := L.length = nl ∧ lv_has ls nl (mj_lv ad L)
theorem mj_l.get {ad : Nat → Nat} {ls : Array Slot} {nl : Nat} {L : mj_L} {i : Nat} {v : Value} (h : mj_l ad ls nl L) (hi : L[i]? = some (some v)) : ls[i]? = some (.val (mj_v ad v)) := h.2.2.2 (i, mj_v ad v) (mj_lv_mem.mpr ⟨v, hi, rfl⟩)
theorem mj_cat (ad : Nat → Nat) (v : Value) : (mj_v ad v).category = v.category := by cases v <;> rfl
theorem mj_cats (ad : Nat → Nat) (vs : List Value) : ((vs.map (mj_v ad)).map fun v => v.category).sum = (vs.map fun v => v.category).sum := by
  rw [List.map_map]
  congr 1
  exact List.map_congr_left (fun v _ => mj_cat ad v)
def mj_cl (L : mj_L) (i : Nat) : mj_L := match i with
  | 0 => L
  | j + 1 => match L[j]? with
    | some (some (.long _)) => L.set j none
    | some (some (.double _)) => L.set j none
    | _ => L
def mj_st (L : mj_L) (i : Nat) (v : Value) : mj_L := (mj_cl L i).set i (some v)
def mj_st2 (L : mj_L) (i : Nat) (v : Value) : mj_L := ((mj_cl L i).set i (some v)).set (i + 1) none
theorem mj_cl_len {L : mj_L} {i : Nat} : (mj_cl L i).length = L.length := by
  unfold mj_cl
  split
  · rfl
  · split <;> simp
theorem mj_cl_get {L : mj_L} {i j : Nat} {v : Value} (h : (mj_cl L i)[j]? = some (some v)) : L[j]? = some (some v) ∧ ¬ (j + 1 = i ∧ v.category = 2) := by
  unfold mj_cl at h
  split at h
  · exact ⟨h, fun q => by omega⟩
  · rename_i i0
    split at h
    · rw [List.getElem?_set] at h
      split at h
      · split at h <;> cases h
      · rename_i hne
        exact ⟨h, fun q => hne (by omega)⟩
    · rw [List.getElem?_set] at h
      split at h
      · split at h <;> cases h
      · rename_i hne
        exact ⟨h, fun q => hne (by omega)⟩
    · rename_i hl hd
      refine ⟨h, fun q => ?_⟩
      obtain ⟨q1, q2⟩ := q
      have e : j = i0 := by omega
      subst e
      cases v <;> first | (exact absurd q2 (by decide)) | (exact hl _ h) | (exact hd _ h) | (simp [Value.category] at q2)
theorem mj_set1 {ad : Nat → Nat} {ls : Array Slot} {nl : Nat} {L L' : mj_L} {i : Nat} {v : Value} (hL : L.length = nl) (h : lv_has ls nl ((i, mj_v ad v) :: (mj_lv ad L').filter (fun q => !(q.1 == i) && !(q.1 + 1 == i && q.2.category == 2)))) (hLL : L' = L) : mj_l ad ls nl (mj_st L i v) := by
  subst hLL
  refine ⟨by simp [mj_st, mj_cl_len, hL], h.1, h.2.1, ?_⟩
  rintro ⟨j, x⟩ hq
  obtain ⟨u, hu, rfl⟩ := mj_lv_mem.mp hq
  refine h.2.2 (j, mj_v ad u) ?_
  unfold mj_st at hu
  rw [List.getElem?_set] at hu
  split at hu
  · rename_i he
    subst he
    split at hu
    · cases hu; exact List.mem_cons_self
    · cases hu
  · rename_i hne
    obtain ⟨h1, h2⟩ := mj_cl_get hu
    refine List.mem_cons_of_mem _ (List.mem_filter.mpr ⟨mj_lv_mem.mpr ⟨u, h1, rfl⟩, ?_⟩)
    have e1 : (j == i) = false := by simp; omega
    have e2 : (j + 1 == i && (mj_v ad u).category == 2) = false := by
      rw [mj_cat]
      simp only [Bool.and_eq_false_iff, beq_eq_false_iff_ne]
      by_cases hji : j + 1 = i
      · exact Or.inr (fun q => h2 ⟨hji, q⟩)
      · exact Or.inl hji
    simp only [e1, e2]
    rfl
theorem mj_set2 {ad : Nat → Nat} {ls : Array Slot} {nl : Nat} {L L' : mj_L} {i : Nat} {v : Value} (hL : L.length = nl) (h : lv_has ls nl ((i, mj_v ad v) :: (mj_lv ad L').filter (fun q => !(q.1 == i) && (!(q.1 == i + 1) && !(q.1 + 1 == i && q.2.category == 2))))) (hLL : L' = L) : mj_l ad ls nl (mj_st2 L i v) := by
  subst hLL
  refine ⟨by simp [mj_st2, mj_cl_len, hL], h.1, h.2.1, ?_⟩
  rintro ⟨j, x⟩ hq
  obtain ⟨u, hu, rfl⟩ := mj_lv_mem.mp hq
  refine h.2.2 (j, mj_v ad u) ?_
  unfold mj_st2 at hu
  rw [List.getElem?_set] at hu
  split at hu
  · split at hu <;> cases hu
  · rename_i hne2
    rw [List.getElem?_set] at hu
    split at hu
    · rename_i he
      subst he
      split at hu
      · cases hu; exact List.mem_cons_self
      · cases hu
    · rename_i hne
      obtain ⟨h1, h2⟩ := mj_cl_get hu
      refine List.mem_cons_of_mem _ (List.mem_filter.mpr ⟨mj_lv_mem.mpr ⟨u, h1, rfl⟩, ?_⟩)
      have e1 : (j == i) = false := by simp; omega
      have e3 : (j == i + 1) = false := by simp; omega
      have e2 : (j + 1 == i && (mj_v ad u).category == 2) = false := by
        rw [mj_cat]
        simp only [Bool.and_eq_false_iff, beq_eq_false_iff_ne]
        by_cases hji : j + 1 = i
        · exact Or.inr (fun q => h2 ⟨hji, q⟩)
        · exact Or.inl hji
      simp only [e1, e2, e3]
      rfl
/-! what lies outside the world and stays: two statics of Throwable, two tables -/
def mj_X (A : Nat → Prop) (U : State) (H : Heap) : Prop := vx_Zq Bundle.tN "UNASSIGNED_STACK" Bundle.steD A U H ∧ vx_Zq Bundle.tN "SUPPRESSED_SENTINEL" Bundle.listD A U H
theorem mj_X.moved {A : Nat → Prop} {u U : State} {H : Heap} (hvm : u.vm.Alike U.vm) (h : mj_X A u H) : mj_X A U H := ⟨h.1.moved hvm, h.2.moved hvm⟩
theorem mj_X.kept {A : Nat → Prop} {U : State} {H H1 : Heap} (h : mj_X A U H) (hq : ∀ a : Nat, a < H.size → ¬ A a → H1[a]? = H[a]?) : mj_X A U H1 := ⟨h.1.kept hq, h.2.kept hq⟩
theorem mj_X.narrow {A B : Nat → Prop} {U : State} {H : Heap} (h : mj_X A U H) (hAB : ∀ q, B q → A q) : mj_X B U H := ⟨h.1.narrow hAB, h.2.narrow hAB⟩
/-! the frame's fixed facts -/
def mj_F (l : Launch) (cc : ByteArray) (M : mj_M) (D : va_G) (A : Nat → Prop) (p : Program) (s : State) (m : MethodId) (args : Array Value) (meth : Method) (c : Code) : Prop :=
  p.tables.exec = Jvm.exec ∧ c.code = cc ∧ c.maxLocals = M.2.1 ∧ s.vm.findClass M.1 = some m.cls ∧ (∀ w ∈ M.2.2.1, w.before args s = true) ∧ va_K D vwCl [] s ∧ (∀ q, s.heap.size ≤ q → A q) ∧ mj_X A s s.heap ∧ (M.2.2.2.2.1 = true → meth.name = "<init>") ∧ (∀ t, M.2.2.2.2.2 = some t → c.exceptionTable.toList = t)
/-- the addresses of the places that stood at the start are kept; without makings all are -/
def mj_rel (b : Bool) (N : Nat) (ad0 ad : Nat → Nat) (w : mj_W) : Prop := (b = false → ad = ad0) ∧ (∀ k, (k < N ∨ 4000 ≤ k) → ad k = ad0 k) ∧ N ≤ w.length ∧ w.length ≤ 4000
theorem mj_rel.len {b : Bool} {N : Nat} {ad0 ad : Nat → Nat} {w w' : mj_W} (h : mj_rel b N ad0 ad w) (e : w'.length = w.length) : mj_rel b N ad0 ad w' := ⟨h.1, h.2.1, by rw [e]; exact h.2.2.1, by rw [e]; exact h.2.2.2⟩
def mj_ret (cc : ByteArray) (pc : Nat) (v : Option Value) : Prop := match v with
  | none => decode cc pc = .ok (.return_, 1)
  | some (.int _) => decode cc pc = .ok (.ireturn, 1)
  | some (.long _) => decode cc pc = .ok (.lreturn, 1)
  | some (.double _) => decode cc pc = .ok (.dreturn, 1)
  | _ => False
def mj_end (l : Launch) (cc : ByteArray) (M : mj_M) (b : Bool) (X : mj_R) (p : Program) (e : Env) (s : State) (m : MethodId) (args : Array Value) (below : List Frame) (meth : Method) (c : Code) (Q : State → Prop) (D : va_G) (A : Nat → Prop) (ad0 : Nat → Nat) (N : Nat) : Prop := match X with
  | .inl (v, w) => ∀ (ad : Nat → Nat) (cy : Nat → ClassId) (H : Heap) (locs : List Loc) (ls : Array Slot) (pc k n : Nat), mj_rel b N ad0 ad w → mj_P D A ad cy w s H → va_S A s.heap H locs → k ≤ M.2.2.2.1.cells → n ≤ M.2.2.2.1.slots → mj_ret cc pc v → W p l e M.2.2.2.1 s m args below meth c H locs k n Q (F0 m pc ls (v.toList.map (mj_v ad)))
  | .inr (E, w) => (∀ (ad : Nat → Nat) (cy : Nat → ClassId) (H : Heap) (locs : List Loc) (ls : Array Slot) (pc k n : Nat) (st : List Value) (q : Addr) (ce : Cell), mj_rel b N ad0 ad w → mj_P D A ad cy w s H → va_S A s.heap H locs → k ≤ M.2.2.2.1.cells → n ≤ M.2.2.2.1.slots → H[q]? = some ce → ce.vm = .none → s.vm.findClass E = some ce.cls → vx_W p l e M.2.2.2.1 s m args below meth c H locs k n Q (F0 m pc ls st) q)
    ∧ ∃ (Qc : Array Value → State → Outcome → State → Prop) (XC : String → State → State → Prop) (free : Addr → Prop), Q = vx_MQ below Qc XC args s M.2.2.2.1.cells M.2.2.2.1.slots free ∧ (∀ q, A q → free q) ∧ (∀ x ∈ c.exceptionTable.toList, False) ∧ meth.locks = false ∧ (∀ (ad : Nat → Nat) (cy : Nat → ClassId) (H : Heap) (locs : List Loc) (t : State), mj_rel b N ad0 ad w → mj_P D A ad cy w s H → va_S A s.heap H locs → s.vm.Alike t.vm → H.size ≤ t.heap.size → (∀ q : Nat, q < H.size → t.heap[q]? = H[q]?) → XC E s t)
/-- from here the machine goes to the end X -/
def GG (l : Launch) (cc : ByteArray) (M : mj_M) (b : Bool) (X : mj_R) (pc : Nat) (L : mj_L) (st : List Value) (w : mj_W) (k n : Nat) : Prop :=
  ∀ (p : Program) (e : Env) (s : State) (m : MethodId) (args : Array Value) (below : List Frame) (meth : Method) (c : Code) (Q : State → Prop) (D : va_G) (A : Nat → Prop) (ad0 : Nat → Nat) (N : Nat),
    mj_F l cc M D A p s m args meth c → mj_end l cc M b X p e s m args below meth c Q D A ad0 N →
    ∀ (ad : Nat → Nat) (cy : Nat → ClassId) (H : Heap) (locs : List Loc) (ls : Array Slot), mj_rel b N ad0 ad w → mj_P D A ad cy w s H → va_S A s.heap H locs → mj_l ad ls M.2.1 L →
      W p l e M.2.2.2.1 s m args below meth c H locs k n Q (F0 m pc ls (st.map (mj_v ad)))
section MJR
variable {l : Launch} {cc : ByteArray} {M : mj_M} {b : Bool} {X : mj_R} {pc : Nat} {L : mj_L} {st : List Value} {w : mj_W} {k n : Nat}

theorem G_iadd {x y : Int32} (hd : decode cc pc = .ok (.iadd, 1)) (kk : GG l cc M b X (pc + 1) L (.int (x + y) :: st) w k n) : GG l cc M b X pc L (.int y :: .int x :: st) w k n := by
  intro p e s m args below meth c Q D A ad0 N F E ad cy H locs ls r P S hl
  exact lv_iadd F.1 F.2.1 hd (kk p e s m args below meth c Q D A ad0 N F E ad cy H locs ls r P S hl)
theorem G_isub {x y : Int32} (hd : decode cc pc = .ok (.isub, 1)) (kk : GG l cc M b X (pc + 1) L (.int (x - y) :: st) w k n) : GG l cc M b X pc L (.int y :: .int x :: st) w k n := by
  intro p e s m args below meth c Q D A ad0 N F E ad cy H locs ls r P S hl
  exact lv_isub F.1 F.2.1 hd (kk p e s m args below meth c Q D A ad0 N F E ad cy H locs ls r P S hl)
theorem G_imul {x y : Int32} (hd : decode cc pc = .ok (.imul, 1)) (kk : GG l cc M b X (pc + 1) L (.int (x * y) :: st) w k n) : GG l cc M b X pc L (.int y :: .int x :: st) w k n := by
  intro p e s m args below meth c Q D A ad0 N F E ad cy H locs ls r P S hl
  exact lv_imul F.1 F.2.1 hd (kk p e s m args below meth c Q D A ad0 N F E ad cy H locs ls r P S hl)
theorem G_iand {x y : Int32} (hd : decode cc pc = .ok (.iand, 1)) (kk : GG l cc M b X (pc + 1) L (.int (x &&& y) :: st) w k n) : GG l cc M b X pc L (.int y :: .int x :: st) w k n := by
  intro p e s m args below meth c Q D A ad0 N F E ad cy H locs ls r P S hl
  exact lv_iand F.1 F.2.1 hd (kk p e s m args below meth c Q D A ad0 N F E ad cy H locs ls r P S hl)
theorem G_ixor {x y : Int32} (hd : decode cc pc = .ok (.ixor, 1)) (kk : GG l cc M b X (pc + 1) L (.int (x ^^^ y) :: st) w k n) : GG l cc M b X pc L (.int y :: .int x :: st) w k n := by
  intro p e s m args below meth c Q D A ad0 N F E ad cy H locs ls r P S hl
  exact lv_ixor F.1 F.2.1 hd (kk p e s m args below meth c Q D A ad0 N F E ad cy H locs ls r P S hl)
theorem G_idiv {x y : Int32} (hd : decode cc pc = .ok (.idiv, 1)) (hne : ¬ y = 0) (kk : GG l cc M b X (pc + 1) L (.int (x / y) :: st) w k n) : GG l cc M b X pc L (.int y :: .int x :: st) w k n := by
  intro p e s m args below meth c Q D A ad0 N F E ad cy H locs ls r P S hl
  exact lv_idiv F.1 F.2.1 hd hne (kk p e s m args below meth c Q D A ad0 N F E ad cy H locs ls r P S hl)
theorem G_irem {x y : Int32} (hd : decode cc pc = .ok (.irem, 1)) (hne : ¬ y = 0) (kk : GG l cc M b X (pc + 1) L (.int (x - x / y * y) :: st) w k n) : GG l cc M b X pc L (.int y :: .int x :: st) w k n := by
  intro p e s m args below meth c Q D A ad0 N F E ad cy H locs ls r P S hl
  exact lv_irem F.1 F.2.1 hd hne (kk p e s m args below meth c Q D A ad0 N F E ad cy H locs ls r P S hl)
theorem G_ineg {x : Int32} (hd : decode cc pc = .ok (.ineg, 1)) (kk : GG l cc M b X (pc + 1) L (.int (-x) :: st) w k n) : GG l cc M b X pc L (.int x :: st) w k n := by
  intro p e s m args below meth c Q D A ad0 N F E ad cy H locs ls r P S hl
  exact lv_ineg F.1 F.2.1 hd (kk p e s m args below meth c Q D A ad0 N F E ad cy H locs ls r P S hl)
theorem G_ladd {x y : Int64} (hd : decode cc pc = .ok (.ladd, 1)) (kk : GG l cc M b X (pc + 1) L (.long (x + y) :: st) w k n) : GG l cc M b X pc L (.long y :: .long x :: st) w k n := by
  intro p e s m args below meth c Q D A ad0 N F E ad cy H locs ls r P S hl
  exact lv_ladd F.1 F.2.1 hd (kk p e s m args below meth c Q D A ad0 N F E ad cy H locs ls r P S hl)
theorem G_lsub {x y : Int64} (hd : decode cc pc = .ok (.lsub, 1)) (kk : GG l cc M b X (pc + 1) L (.long (x - y) :: st) w k n) : GG l cc M b X pc L (.long y :: .long x :: st) w k n := by
  intro p e s m args below meth c Q D A ad0 N F E ad cy H locs ls r P S hl
  exact lv_lsub F.1 F.2.1 hd (kk p e s m args below meth c Q D A ad0 N F E ad cy H locs ls r P S hl)
theorem G_lmul {x y : Int64} (hd : decode cc pc = .ok (.lmul, 1)) (kk : GG l cc M b X (pc + 1) L (.long (x * y) :: st) w k n) : GG l cc M b X pc L (.long y :: .long x :: st) w k n := by
  intro p e s m args below meth c Q D A ad0 N F E ad cy H locs ls r P S hl
  exact lv_lmul F.1 F.2.1 hd (kk p e s m args below meth c Q D A ad0 N F E ad cy H locs ls r P S hl)
theorem G_lrem {x y : Int64} (hd : decode cc pc = .ok (.lrem, 1)) (hne : ¬ y = 0) (kk : GG l cc M b X (pc + 1) L (.long (x - x / y * y) :: st) w k n) : GG l cc M b X pc L (.long y :: .long x :: st) w k n := by
  intro p e s m args below meth c Q D A ad0 N F E ad cy H locs ls r P S hl
  exact lv_lrem F.1 F.2.1 hd hne (kk p e s m args below meth c Q D A ad0 N F E ad cy H locs ls r P S hl)
theorem G_lcmp {x y : Int64} (hd : decode cc pc = .ok (.lcmp, 1)) (kk : GG l cc M b X (pc + 1) L (.int (lg_cmp x y) :: st) w k n) : GG l cc M b X pc L (.long y :: .long x :: st) w k n := by
  intro p e s m args below meth c Q D A ad0 N F E ad cy H locs ls r P S hl
  exact W.lcmp F.1 F.2.1 hd (kk p e s m args below meth c Q D A ad0 N F E ad cy H locs ls r P S hl)
theorem G_lshl {x : Int64} {y : Int32} (hd : decode cc pc = .ok (.lshl, 1)) (kk : GG l cc M b X (pc + 1) L (.long (x <<< (y.toInt64 &&& 63)) :: st) w k n) : GG l cc M b X pc L (.int y :: .long x :: st) w k n := by
  intro p e s m args below meth c Q D A ad0 N F E ad cy H locs ls r P S hl
  exact lv_lshl F.1 F.2.1 hd rfl (kk p e s m args below meth c Q D A ad0 N F E ad cy H locs ls r P S hl)
theorem G_i2l {x : Int32} (hd : decode cc pc = .ok (.i2l, 1)) (kk : GG l cc M b X (pc + 1) L (.long x.toInt64 :: st) w k n) : GG l cc M b X pc L (.int x :: st) w k n := by
  intro p e s m args below meth c Q D A ad0 N F E ad cy H locs ls r P S hl
  exact lv_i2l F.1 F.2.1 hd rfl (kk p e s m args below meth c Q D A ad0 N F E ad cy H locs ls r P S hl)
theorem G_l2i {x : Int64} (hd : decode cc pc = .ok (.l2i, 1)) (kk : GG l cc M b X (pc + 1) L (.int x.toInt32 :: st) w k n) : GG l cc M b X pc L (.long x :: st) w k n := by
  intro p e s m args below meth c Q D A ad0 N F E ad cy H locs ls r P S hl
  exact lv_l2i F.1 F.2.1 hd rfl (kk p e s m args below meth c Q D A ad0 N F E ad cy H locs ls r P S hl)
theorem G_i2c {x : Int32} (hd : decode cc pc = .ok (.i2c, 1)) (kk : GG l cc M b X (pc + 1) L (.int (x.toUInt32 % 65536).toInt32 :: st) w k n) : GG l cc M b X pc L (.int x :: st) w k n := by
  intro p e s m args below meth c Q D A ad0 N F E ad cy H locs ls r P S hl
  exact lv_i2c F.1 F.2.1 hd rfl (kk p e s m args below meth c Q D A ad0 N F E ad cy H locs ls r P S hl)
theorem G_i2d {x : Int32} (hd : decode cc pc = .ok (.i2d, 1)) (kk : GG l cc M b X (pc + 1) L (.double (FP.i2d x) :: st) w k n) : GG l cc M b X pc L (.int x :: st) w k n := by
  intro p e s m args below meth c Q D A ad0 N F E ad cy H locs ls r P S hl
  exact lv_i2d F.1 F.2.1 hd (kk p e s m args below meth c Q D A ad0 N F E ad cy H locs ls r P S hl)
theorem G_d2l {x : UInt64} (hd : decode cc pc = .ok (.d2l, 1)) (kk : GG l cc M b X (pc + 1) L (.long (FP.d2l x) :: st) w k n) : GG l cc M b X pc L (.double x :: st) w k n := by
  intro p e s m args below meth c Q D A ad0 N F E ad cy H locs ls r P S hl
  exact lv_d2l F.1 F.2.1 hd (kk p e s m args below meth c Q D A ad0 N F E ad cy H locs ls r P S hl)
theorem G_ddiv {x y : UInt64} (hd : decode cc pc = .ok (.ddiv, 1)) (hne : vf_n64 (FP.ddiv x y)) (kk : GG l cc M b X (pc + 1) L (.double (FP.ddiv x y) :: st) w k n) : GG l cc M b X pc L (.double y :: .double x :: st) w k n := by
  intro p e s m args below meth c Q D A ad0 N F E ad cy H locs ls r P S hl
  exact lv_ddiv F.1 F.2.1 hd hne (kk p e s m args below meth c Q D A ad0 N F E ad cy H locs ls r P S hl)
theorem G_dmul {x y : UInt64} (hd : decode cc pc = .ok (.dmul, 1)) (hne : vf_n64 (FP.dmul x y)) (kk : GG l cc M b X (pc + 1) L (.double (FP.dmul x y) :: st) w k n) : GG l cc M b X pc L (.double y :: .double x :: st) w k n := by
  intro p e s m args below meth c Q D A ad0 N F E ad cy H locs ls r P S hl
  exact lv_dmul F.1 F.2.1 hd hne (kk p e s m args below meth c Q D A ad0 N F E ad cy H locs ls r P S hl)
theorem G_dsub {x y : UInt64} (hd : decode cc pc = .ok (.dsub, 1)) (hne : vf_n64 (FP.dsub x y)) (kk : GG l cc M b X (pc + 1) L (.double (FP.dsub x y) :: st) w k n) : GG l cc M b X pc L (.double y :: .double x :: st) w k n := by
  intro p e s m args below meth c Q D A ad0 N F E ad cy H locs ls r P S hl
  exact lv_dsub F.1 F.2.1 hd hne (kk p e s m args below meth c Q D A ad0 N F E ad cy H locs ls r P S hl)
theorem G_dcmp {x y : UInt64} {op : CmpOp} (hd : decode cc pc = .ok (.dcmp op, 1)) (kk : GG l cc M b X (pc + 1) L (.int (Op.cmpValue (FP.dcmp x y) op) :: st) w k n) : GG l cc M b X pc L (.double y :: .double x :: st) w k n := by
  intro p e s m args below meth c Q D A ad0 N F E ad cy H locs ls r P S hl
  exact lv_dcmp F.1 F.2.1 hd (kk p e s m args below meth c Q D A ad0 N F E ad cy H locs ls r P S hl)
theorem G_dconst0 (hd : decode cc pc = .ok (.dconst 0, 1)) (kk : GG l cc M b X (pc + 1) L (.double FP.dconst0 :: st) w k n) : GG l cc M b X pc L st w k n := by
  intro p e s m args below meth c Q D A ad0 N F E ad cy H locs ls r P S hl
  exact lv_dconst0 F.1 F.2.1 hd (kk p e s m args below meth c Q D A ad0 N F E ad cy H locs ls r P S hl)
theorem G_dconst1 (hd : decode cc pc = .ok (.dconst 1, 1)) (kk : GG l cc M b X (pc + 1) L (.double FP.dconst1 :: st) w k n) : GG l cc M b X pc L st w k n := by
  intro p e s m args below meth c Q D A ad0 N F E ad cy H locs ls r P S hl
  exact lv_dconst1 F.1 F.2.1 hd (kk p e s m args below meth c Q D A ad0 N F E ad cy H locs ls r P S hl)
theorem G_lconst {i : Fin 2} {v : Int64} (hd : decode cc pc = .ok (.lconst i, 1)) (hv : Int64.ofNat (i : Nat) = v) (kk : GG l cc M b X (pc + 1) L (.long v :: st) w k n) : GG l cc M b X pc L st w k n := by
  intro p e s m args below meth c Q D A ad0 N F E ad cy H locs ls r P S hl
  exact lv_lconst F.1 F.2.1 hd hv (kk p e s m args below meth c Q D A ad0 N F E ad cy H locs ls r P S hl)
theorem G_iconst {i : Int} {v : Int32} (hd : decode cc pc = .ok (.iconst i, 1)) (hv : Int32.ofInt i = v) (kk : GG l cc M b X (pc + 1) L (.int v :: st) w k n) : GG l cc M b X pc L st w k n := by
  intro p e s m args below meth c Q D A ad0 N F E ad cy H locs ls r P S hl
  exact lv_iconst F.1 F.2.1 hd hv (kk p e s m args below meth c Q D A ad0 N F E ad cy H locs ls r P S hl)
theorem G_bipush {i : Int} {v : Int32} (hd : decode cc pc = .ok (.bipush i, 2)) (hv : (Int8.ofInt i).toInt32 = v) (kk : GG l cc M b X (pc + 2) L (.int v :: st) w k n) : GG l cc M b X pc L st w k n := by
  intro p e s m args below meth c Q D A ad0 N F E ad cy H locs ls r P S hl
  exact lv_bipush F.1 F.2.1 hd hv (kk p e s m args below meth c Q D A ad0 N F E ad cy H locs ls r P S hl)
theorem G_sipush {i : Int} {v : Int32} (hd : decode cc pc = .ok (.sipush i, 3)) (hv : (Int16.ofInt i).toInt32 = v) (kk : GG l cc M b X (pc + 3) L (.int v :: st) w k n) : GG l cc M b X pc L st w k n := by
  intro p e s m args below meth c Q D A ad0 N F E ad cy H locs ls r P S hl
  exact lv_sipush F.1 F.2.1 hd hv (kk p e s m args below meth c Q D A ad0 N F E ad cy H locs ls r P S hl)
theorem G_ldc2 {i : Nat} {v : Int64} (hd : decode cc pc = .ok (.ldc2_w i, 3)) (hc : Cond.constantLong M.1 i v ∈ M.2.2.1) (kk : GG l cc M b X (pc + 3) L (.long v :: st) w k n) : GG l cc M b X pc L st w k n := by
  intro p e s m args below meth c Q D A ad0 N F E ad cy H locs ls r P S hl
  exact lv_ldc2 F.1 F.2.1 F.2.2.2.1 (F.2.2.2.2.1 _ hc) hd (kk p e s m args below meth c Q D A ad0 N F E ad cy H locs ls r P S hl)
theorem G_ldc2d {i : Nat} {v : UInt64} (hd : decode cc pc = .ok (.ldc2_w i, 3)) (hc : Cond.constantDouble M.1 i v ∈ M.2.2.1) (kk : GG l cc M b X (pc + 3) L (.double v :: st) w k n) : GG l cc M b X pc L st w k n := by
  intro p e s m args below meth c Q D A ad0 N F E ad cy H locs ls r P S hl
  exact lv_ldc2d F.1 F.2.1 F.2.2.2.1 (F.2.2.2.2.1 _ hc) hd (kk p e s m args below meth c Q D A ad0 N F E ad cy H locs ls r P S hl)
theorem G_iload {i : Nat} {x : Int32} (hd : decode cc pc = .ok (.iload i, 2)) (hi : L[i]? = some (some (.int x))) (kk : GG l cc M b X (pc + 2) L (.int x :: st) w k n) : GG l cc M b X pc L st w k n := by
  intro p e s m args below meth c Q D A ad0 N F E ad cy H locs ls r P S hl
  exact lv_iload F.1 F.2.1 hd (hl.get hi) (kk p e s m args below meth c Q D A ad0 N F E ad cy H locs ls r P S hl)
theorem G_iload_n {i : Fin 4} {x : Int32} (hd : decode cc pc = .ok (.iload_n i, 1)) (hi : L[(i : Nat)]? = some (some (.int x))) (kk : GG l cc M b X (pc + 1) L (.int x :: st) w k n) : GG l cc M b X pc L st w k n := by
  intro p e s m args below meth c Q D A ad0 N F E ad cy H locs ls r P S hl
  exact lv_iload_n F.1 F.2.1 hd rfl (hl.get hi) (kk p e s m args below meth c Q D A ad0 N F E ad cy H locs ls r P S hl)
theorem G_aload {i : Nat} {x : Nat} (hd : decode cc pc = .ok (.aload i, 2)) (hi : L[i]? = some (some (.ref x))) (kk : GG l cc M b X (pc + 2) L (.ref x :: st) w k n) : GG l cc M b X pc L st w k n := by
  intro p e s m args below meth c Q D A ad0 N F E ad cy H locs ls r P S hl
  exact lv_aload F.1 F.2.1 hd (hl.get hi) (kk p e s m args below meth c Q D A ad0 N F E ad cy H locs ls r P S hl)
theorem G_aload_n {i : Fin 4} {x : Nat} (hd : decode cc pc = .ok (.aload_n i, 1)) (hi : L[(i : Nat)]? = some (some (.ref x))) (kk : GG l cc M b X (pc + 1) L (.ref x :: st) w k n) : GG l cc M b X pc L st w k n := by
  intro p e s m args below meth c Q D A ad0 N F E ad cy H locs ls r P S hl
  exact lv_aload_n F.1 F.2.1 hd rfl (hl.get hi) (kk p e s m args below meth c Q D A ad0 N F E ad cy H locs ls r P S hl)
theorem G_lload {i : Nat} {x : Int64} (hd : decode cc pc = .ok (.lload i, 2)) (hi : L[i]? = some (some (.long x))) (kk : GG l cc M b X (pc + 2) L (.long x :: st) w k n) : GG l cc M b X pc L st w k n := by
  intro p e s m args below meth c Q D A ad0 N F E ad cy H locs ls r P S hl
  exact lv_lload F.1 F.2.1 hd (hl.get hi) (kk p e s m args below meth c Q D A ad0 N F E ad cy H locs ls r P S hl)
theorem G_lload_n {i : Fin 4} {x : Int64} (hd : decode cc pc = .ok (.lload_n i, 1)) (hi : L[(i : Nat)]? = some (some (.long x))) (kk : GG l cc M b X (pc + 1) L (.long x :: st) w k n) : GG l cc M b X pc L st w k n := by
  intro p e s m args below meth c Q D A ad0 N F E ad cy H locs ls r P S hl
  exact lv_lload_n F.1 F.2.1 hd rfl (hl.get hi) (kk p e s m args below meth c Q D A ad0 N F E ad cy H locs ls r P S hl)
theorem G_dload {i : Nat} {x : UInt64} (hd : decode cc pc = .ok (.dload i, 2)) (hi : L[i]? = some (some (.double x))) (kk : GG l cc M b X (pc + 2) L (.double x :: st) w k n) : GG l cc M b X pc L st w k n := by
  intro p e s m args below meth c Q D A ad0 N F E ad cy H locs ls r P S hl
  exact lv_dload F.1 F.2.1 hd (hl.get hi) (kk p e s m args below meth c Q D A ad0 N F E ad cy H locs ls r P S hl)
theorem G_dload_n {i : Fin 4} {x : UInt64} (hd : decode cc pc = .ok (.dload_n i, 1)) (hi : L[(i : Nat)]? = some (some (.double x))) (kk : GG l cc M b X (pc + 1) L (.double x :: st) w k n) : GG l cc M b X pc L st w k n := by
  intro p e s m args below meth c Q D A ad0 N F E ad cy H locs ls r P S hl
  exact lv_dload_n F.1 F.2.1 hd rfl (hl.get hi) (kk p e s m args below meth c Q D A ad0 N F E ad cy H locs ls r P S hl)
theorem G_istore {i : Nat} {x : Int32} {L' : mj_L} (hd : decode cc pc = .ok (.istore i, 2)) (hi : Nat.ble (i + 1) L.length = true) (hL : mj_st L i (.int x) = L') (kk : GG l cc M b X (pc + 2) L' st w k n) : GG l cc M b X pc L (.int x :: st) w k n := by
  intro p e s m args below meth c Q D A ad0 N F E ad cy H locs ls r P S hl
  subst hL
  exact lv_istore F.1 F.2.1 hd hl.2 (by rw [← hl.1]; exact Nat.le_of_ble_eq_true hi) rfl (fun ls' hl' => kk p e s m args below meth c Q D A ad0 N F E ad cy H locs ls' r P S (mj_set1 hl.1 hl' rfl))
theorem G_istore_n {i : Fin 4} {x : Int32} {L' : mj_L} (hd : decode cc pc = .ok (.istore_n i, 1)) (hi : Nat.ble ((i : Nat) + 1) L.length = true) (hL : mj_st L (i : Nat) (.int x) = L') (kk : GG l cc M b X (pc + 1) L' st w k n) : GG l cc M b X pc L (.int x :: st) w k n := by
  intro p e s m args below meth c Q D A ad0 N F E ad cy H locs ls r P S hl
  subst hL
  exact lv_istore_n F.1 F.2.1 hd rfl hl.2 (by rw [← hl.1]; exact Nat.le_of_ble_eq_true hi) rfl (fun ls' hl' => kk p e s m args below meth c Q D A ad0 N F E ad cy H locs ls' r P S (mj_set1 hl.1 hl' rfl))
theorem G_astore {i : Nat} {x : Nat} {L' : mj_L} (hd : decode cc pc = .ok (.astore i, 2)) (hi : Nat.ble (i + 1) L.length = true) (hL : mj_st L i (.ref x) = L') (kk : GG l cc M b X (pc + 2) L' st w k n) : GG l cc M b X pc L (.ref x :: st) w k n := by
  intro p e s m args below meth c Q D A ad0 N F E ad cy H locs ls r P S hl
  subst hL
  exact lv_astore F.1 F.2.1 hd hl.2 (by rw [← hl.1]; exact Nat.le_of_ble_eq_true hi) rfl (fun ls' hl' => kk p e s m args below meth c Q D A ad0 N F E ad cy H locs ls' r P S (mj_set1 hl.1 hl' rfl))
theorem G_astore_n {i : Fin 4} {x : Nat} {L' : mj_L} (hd : decode cc pc = .ok (.astore_n i, 1)) (hi : Nat.ble ((i : Nat) + 1) L.length = true) (hL : mj_st L (i : Nat) (.ref x) = L') (kk : GG l cc M b X (pc + 1) L' st w k n) : GG l cc M b X pc L (.ref x :: st) w k n := by
  intro p e s m args below meth c Q D A ad0 N F E ad cy H locs ls r P S hl
  subst hL
  exact lv_astore_n F.1 F.2.1 hd rfl hl.2 (by rw [← hl.1]; exact Nat.le_of_ble_eq_true hi) rfl (fun ls' hl' => kk p e s m args below meth c Q D A ad0 N F E ad cy H locs ls' r P S (mj_set1 hl.1 hl' rfl))
theorem G_lstore {i : Nat} {x : Int64} {L' : mj_L} (hd : decode cc pc = .ok (.lstore i, 2)) (hi : Nat.ble (i + 2) L.length = true) (hL : mj_st2 L i (.long x) = L') (kk : GG l cc M b X (pc + 2) L' st w k n) : GG l cc M b X pc L (.long x :: st) w k n := by
  intro p e s m args below meth c Q D A ad0 N F E ad cy H locs ls r P S hl
  subst hL
  exact lv_lstore F.1 F.2.1 hd hl.2 (by rw [← hl.1]; exact Nat.le_of_ble_eq_true hi) rfl (fun ls' hl' => kk p e s m args below meth c Q D A ad0 N F E ad cy H locs ls' r P S (mj_set2 hl.1 hl' rfl))
theorem G_lstore_n {i : Fin 4} {x : Int64} {L' : mj_L} (hd : decode cc pc = .ok (.lstore_n i, 1)) (hi : Nat.ble ((i : Nat) + 2) L.length = true) (hL : mj_st2 L (i : Nat) (.long x) = L') (kk : GG l cc M b X (pc + 1) L' st w k n) : GG l cc M b X pc L (.long x :: st) w k n := by
  intro p e s m args below meth c Q D A ad0 N F E ad cy H locs ls r P S hl
  subst hL
  exact lv_lstore_n F.1 F.2.1 hd rfl hl.2 (by rw [← hl.1]; exact Nat.le_of_ble_eq_true hi) rfl (fun ls' hl' => kk p e s m args below meth c Q D A ad0 N F E ad cy H locs ls' r P S (mj_set2 hl.1 hl' rfl))
theorem G_dstore {i : Nat} {x : UInt64} {L' : mj_L} (hd : decode cc pc = .ok (.dstore i, 2)) (hi : Nat.ble (i + 2) L.length = true) (hL : mj_st2 L i (.double x) = L') (kk : GG l cc M b X (pc + 2) L' st w k n) : GG l cc M b X pc L (.double x :: st) w k n := by
  intro p e s m args below meth c Q D A ad0 N F E ad cy H locs ls r P S hl
  subst hL
  exact lv_dstore F.1 F.2.1 hd hl.2 (by rw [← hl.1]; exact Nat.le_of_ble_eq_true hi) rfl (fun ls' hl' => kk p e s m args below meth c Q D A ad0 N F E ad cy H locs ls' r P S (mj_set2 hl.1 hl' rfl))
theorem G_dstore_n {i : Fin 4} {x : UInt64} {L' : mj_L} (hd : decode cc pc = .ok (.dstore_n i, 1)) (hi : Nat.ble ((i : Nat) + 2) L.length = true) (hL : mj_st2 L (i : Nat) (.double x) = L') (kk : GG l cc M b X (pc + 1) L' st w k n) : GG l cc M b X pc L (.double x :: st) w k n := by
  intro p e s m args below meth c Q D A ad0 N F E ad cy H locs ls r P S hl
  subst hL
  exact lv_dstore_n F.1 F.2.1 hd rfl hl.2 (by rw [← hl.1]; exact Nat.le_of_ble_eq_true hi) rfl (fun ls' hl' => kk p e s m args below meth c Q D A ad0 N F E ad cy H locs ls' r P S (mj_set2 hl.1 hl' rfl))
theorem G_iinc {i : Nat} {d : Int} {x v : Int32} {L' : mj_L} (hd : decode cc pc = .ok (.iinc i d, 3)) (hi : L[i]? = some (some (.int x))) (hv : x + Int32.ofInt d = v) (hL : mj_st L i (.int v) = L') (kk : GG l cc M b X (pc + 3) L' st w k n) : GG l cc M b X pc L st w k n := by
  intro p e s m args below meth c Q D A ad0 N F E ad cy H locs ls r P S hl
  subst hL
  obtain ⟨z, hz⟩ := List.getElem?_of_mem (mj_lv_mem.mpr ⟨Value.int x, hi, rfl⟩ : (i, Value.int x) ∈ mj_lv ad L)
  exact lv_iinc (k := z) F.1 F.2.1 hd hl.2 hz hv (by rw [← hl.1]; exact (List.getElem?_eq_some_iff.mp hi).1) rfl (fun ls' hl' => kk p e s m args below meth c Q D A ad0 N F E ad cy H locs ls' r P S (mj_set1 hl.1 hl' rfl))
theorem G_dup {v : Value} (hd : decode cc pc = .ok (.dup, 1)) (hv : v.category = 1) (kk : GG l cc M b X (pc + 1) L (v :: v :: st) w k n) : GG l cc M b X pc L (v :: st) w k n := by
  intro p e s m args below meth c Q D A ad0 N F E ad cy H locs ls r P S hl
  exact lv_dup F.1 F.2.1 hd ((mj_cat ad v).trans hv) (kk p e s m args below meth c Q D A ad0 N F E ad cy H locs ls r P S hl)
theorem G_dup2 {u v : Value} (hd : decode cc pc = .ok (.dup2, 1)) (hu : u.category = 1) (hv : v.category = 1) (kk : GG l cc M b X (pc + 1) L (u :: v :: u :: v :: st) w k n) : GG l cc M b X pc L (u :: v :: st) w k n := by
  intro p e s m args below meth c Q D A ad0 N F E ad cy H locs ls r P S hl
  exact lv_dup2_11 F.1 F.2.1 hd ((mj_cat ad u).trans hu) ((mj_cat ad v).trans hv) (kk p e s m args below meth c Q D A ad0 N F E ad cy H locs ls r P S hl)
theorem G_pop {v : Value} (hd : decode cc pc = .ok (.pop, 1)) (hv : v.category = 1) (kk : GG l cc M b X (pc + 1) L st w k n) : GG l cc M b X pc L (v :: st) w k n := by
  intro p e s m args below meth c Q D A ad0 N F E ad cy H locs ls r P S hl
  exact lv_pop F.1 F.2.1 hd ((mj_cat ad v).trans hv) (kk p e s m args below meth c Q D A ad0 N F E ad cy H locs ls r P S hl)
theorem G_icmp_eq {x y : Int32} {off : Int} (tgt : Nat) (hd : decode cc pc = .ok (.if_icmp .eq off, 3)) (ht : (pc : Int) + off = (tgt : Int)) (kt : x = y → GG l cc M b X tgt L st w k n) (kf : ¬ x = y → GG l cc M b X (pc + 3) L st w k n) : GG l cc M b X pc L (.int y :: .int x :: st) w k n := by
  intro p e s m args below meth c Q D A ad0 N F E ad cy H locs ls r P S hl
  exact lv_icmp_eq F.1 F.2.1 hd ht (fun q => kt q p e s m args below meth c Q D A ad0 N F E ad cy H locs ls r P S hl) (fun q => kf q p e s m args below meth c Q D A ad0 N F E ad cy H locs ls r P S hl)
theorem G_if_eq {x : Int32} {off : Int} (tgt : Nat) (hd : decode cc pc = .ok (.ifCond .eq off, 3)) (ht : (pc : Int) + off = (tgt : Int)) (kt : x = 0 → GG l cc M b X tgt L st w k n) (kf : ¬ x = 0 → GG l cc M b X (pc + 3) L st w k n) : GG l cc M b X pc L (.int x :: st) w k n := by
  intro p e s m args below meth c Q D A ad0 N F E ad cy H locs ls r P S hl
  exact lv_if_eq F.1 F.2.1 hd ht (fun q => kt q p e s m args below meth c Q D A ad0 N F E ad cy H locs ls r P S hl) (fun q => kf q p e s m args below meth c Q D A ad0 N F E ad cy H locs ls r P S hl)
theorem G_icmp_ne {x y : Int32} {off : Int} (tgt : Nat) (hd : decode cc pc = .ok (.if_icmp .ne off, 3)) (ht : (pc : Int) + off = (tgt : Int)) (kt : ¬ x = y → GG l cc M b X tgt L st w k n) (kf : x = y → GG l cc M b X (pc + 3) L st w k n) : GG l cc M b X pc L (.int y :: .int x :: st) w k n := by
  intro p e s m args below meth c Q D A ad0 N F E ad cy H locs ls r P S hl
  exact lv_icmp_ne F.1 F.2.1 hd ht (fun q => kt q p e s m args below meth c Q D A ad0 N F E ad cy H locs ls r P S hl) (fun q => kf q p e s m args below meth c Q D A ad0 N F E ad cy H locs ls r P S hl)
theorem G_if_ne {x : Int32} {off : Int} (tgt : Nat) (hd : decode cc pc = .ok (.ifCond .ne off, 3)) (ht : (pc : Int) + off = (tgt : Int)) (kt : ¬ x = 0 → GG l cc M b X tgt L st w k n) (kf : x = 0 → GG l cc M b X (pc + 3) L st w k n) : GG l cc M b X pc L (.int x :: st) w k n := by
  intro p e s m args below meth c Q D A ad0 N F E ad cy H locs ls r P S hl
  exact lv_if_ne F.1 F.2.1 hd ht (fun q => kt q p e s m args below meth c Q D A ad0 N F E ad cy H locs ls r P S hl) (fun q => kf q p e s m args below meth c Q D A ad0 N F E ad cy H locs ls r P S hl)
theorem G_icmp_lt {x y : Int32} {off : Int} (tgt : Nat) (hd : decode cc pc = .ok (.if_icmp .lt off, 3)) (ht : (pc : Int) + off = (tgt : Int)) (kt : x < y → GG l cc M b X tgt L st w k n) (kf : ¬ x < y → GG l cc M b X (pc + 3) L st w k n) : GG l cc M b X pc L (.int y :: .int x :: st) w k n := by
  intro p e s m args below meth c Q D A ad0 N F E ad cy H locs ls r P S hl
  exact lv_icmp_lt F.1 F.2.1 hd ht (fun q => kt q p e s m args below meth c Q D A ad0 N F E ad cy H locs ls r P S hl) (fun q => kf q p e s m args below meth c Q D A ad0 N F E ad cy H locs ls r P S hl)
theorem G_if_lt {x : Int32} {off : Int} (tgt : Nat) (hd : decode cc pc = .ok (.ifCond .lt off, 3)) (ht : (pc : Int) + off = (tgt : Int)) (kt : x < 0 → GG l cc M b X tgt L st w k n) (kf : ¬ x < 0 → GG l cc M b X (pc + 3) L st w k n) : GG l cc M b X pc L (.int x :: st) w k n := by
  intro p e s m args below meth c Q D A ad0 N F E ad cy H locs ls r P S hl
  exact lv_if_lt F.1 F.2.1 hd ht (fun q => kt q p e s m args below meth c Q D A ad0 N F E ad cy H locs ls r P S hl) (fun q => kf q p e s m args below meth c Q D A ad0 N F E ad cy H locs ls r P S hl)
theorem G_icmp_ge {x y : Int32} {off : Int} (tgt : Nat) (hd : decode cc pc = .ok (.if_icmp .ge off, 3)) (ht : (pc : Int) + off = (tgt : Int)) (kt : y ≤ x → GG l cc M b X tgt L st w k n) (kf : ¬ y ≤ x → GG l cc M b X (pc + 3) L st w k n) : GG l cc M b X pc L (.int y :: .int x :: st) w k n := by
  intro p e s m args below meth c Q D A ad0 N F E ad cy H locs ls r P S hl
  exact lv_icmp_ge F.1 F.2.1 hd ht (fun q => kt q p e s m args below meth c Q D A ad0 N F E ad cy H locs ls r P S hl) (fun q => kf q p e s m args below meth c Q D A ad0 N F E ad cy H locs ls r P S hl)
theorem G_if_ge {x : Int32} {off : Int} (tgt : Nat) (hd : decode cc pc = .ok (.ifCond .ge off, 3)) (ht : (pc : Int) + off = (tgt : Int)) (kt : 0 ≤ x → GG l cc M b X tgt L st w k n) (kf : ¬ 0 ≤ x → GG l cc M b X (pc + 3) L st w k n) : GG l cc M b X pc L (.int x :: st) w k n := by
  intro p e s m args below meth c Q D A ad0 N F E ad cy H locs ls r P S hl
  exact lv_if_ge F.1 F.2.1 hd ht (fun q => kt q p e s m args below meth c Q D A ad0 N F E ad cy H locs ls r P S hl) (fun q => kf q p e s m args below meth c Q D A ad0 N F E ad cy H locs ls r P S hl)
theorem G_icmp_gt {x y : Int32} {off : Int} (tgt : Nat) (hd : decode cc pc = .ok (.if_icmp .gt off, 3)) (ht : (pc : Int) + off = (tgt : Int)) (kt : y < x → GG l cc M b X tgt L st w k n) (kf : ¬ y < x → GG l cc M b X (pc + 3) L st w k n) : GG l cc M b X pc L (.int y :: .int x :: st) w k n := by
  intro p e s m args below meth c Q D A ad0 N F E ad cy H locs ls r P S hl
  exact lv_icmp_gt F.1 F.2.1 hd ht (fun q => kt q p e s m args below meth c Q D A ad0 N F E ad cy H locs ls r P S hl) (fun q => kf q p e s m args below meth c Q D A ad0 N F E ad cy H locs ls r P S hl)
theorem G_if_gt {x : Int32} {off : Int} (tgt : Nat) (hd : decode cc pc = .ok (.ifCond .gt off, 3)) (ht : (pc : Int) + off = (tgt : Int)) (kt : 0 < x → GG l cc M b X tgt L st w k n) (kf : ¬ 0 < x → GG l cc M b X (pc + 3) L st w k n) : GG l cc M b X pc L (.int x :: st) w k n := by
  intro p e s m args below meth c Q D A ad0 N F E ad cy H locs ls r P S hl
  exact lv_if_gt F.1 F.2.1 hd ht (fun q => kt q p e s m args below meth c Q D A ad0 N F E ad cy H locs ls r P S hl) (fun q => kf q p e s m args below meth c Q D A ad0 N F E ad cy H locs ls r P S hl)
theorem G_icmp_le {x y : Int32} {off : Int} (tgt : Nat) (hd : decode cc pc = .ok (.if_icmp .le off, 3)) (ht : (pc : Int) + off = (tgt : Int)) (kt : x ≤ y → GG l cc M b X tgt L st w k n) (kf : ¬ x ≤ y → GG l cc M b X (pc + 3) L st w k n) : GG l cc M b X pc L (.int y :: .int x :: st) w k n := by
  intro p e s m args below meth c Q D A ad0 N F E ad cy H locs ls r P S hl
  exact lv_icmp_le F.1 F.2.1 hd ht (fun q => kt q p e s m args below meth c Q D A ad0 N F E ad cy H locs ls r P S hl) (fun q => kf q p e s m args below meth c Q D A ad0 N F E ad cy H locs ls r P S hl)
theorem G_if_le {x : Int32} {off : Int} (tgt : Nat) (hd : decode cc pc = .ok (.ifCond .le off, 3)) (ht : (pc : Int) + off = (tgt : Int)) (kt : x ≤ 0 → GG l cc M b X tgt L st w k n) (kf : ¬ x ≤ 0 → GG l cc M b X (pc + 3) L st w k n) : GG l cc M b X pc L (.int x :: st) w k n := by
  intro p e s m args below meth c Q D A ad0 N F E ad cy H locs ls r P S hl
  exact lv_if_le F.1 F.2.1 hd ht (fun q => kt q p e s m args below meth c Q D A ad0 N F E ad cy H locs ls r P S hl) (fun q => kf q p e s m args below meth c Q D A ad0 N F E ad cy H locs ls r P S hl)
theorem G_goto {off : Int} (tgt : Nat) (hd : decode cc pc = .ok (.goto off, 3)) (ht : (pc : Int) + off = (tgt : Int)) (kk : GG l cc M b X tgt L st w k n) : GG l cc M b X pc L st w k n := by
  intro p e s m args below meth c Q D A ad0 N F E ad cy H locs ls r P S hl
  exact lv_goto F.1 F.2.1 hd ht (kk p e s m args below meth c Q D A ad0 N F E ad cy H locs ls r P S hl)
theorem G_tabIn {dflt lo hi : Int} {offs : Array Int} {len : Nat} {x : Int32} {off : Int} (tgt : Nat) (hd : decode cc pc = .ok (.tableswitch dflt lo hi offs, len)) (h1 : ¬ x.toInt < lo) (h2 : ¬ hi < x.toInt) (ho : offs[(x.toInt - lo).toNat]? = some off) (ht : (pc : Int) + off = (tgt : Int)) (kk : GG l cc M b X tgt L st w k n) : GG l cc M b X pc L (.int x :: st) w k n := by
  intro p e s m args below meth c Q D A ad0 N F E ad cy H locs ls r P S hl
  exact lv_tableIn F.1 F.2.1 hd h1 h2 ho ht (kk p e s m args below meth c Q D A ad0 N F E ad cy H locs ls r P S hl)
theorem G_tabOut {dflt lo hi : Int} {offs : Array Int} {len : Nat} {x : Int32} (tgt : Nat) (hd : decode cc pc = .ok (.tableswitch dflt lo hi offs, len)) (h : x.toInt < lo ∨ hi < x.toInt) (ht : (pc : Int) + dflt = (tgt : Int)) (kk : GG l cc M b X tgt L st w k n) : GG l cc M b X pc L (.int x :: st) w k n := by
  intro p e s m args below meth c Q D A ad0 N F E ad cy H locs ls r P S hl
  exact lv_tableOut F.1 F.2.1 hd h ht (kk p e s m args below meth c Q D A ad0 N F E ad cy H locs ls r P S hl)
theorem G_look {dflt : Int} {ps : Array (Int × Int)} {len : Nat} {x : Int32} {off : Int} (tgt : Nat) (hd : decode cc pc = .ok (.lookupswitch dflt ps, len)) (hp : (ps.toList.zip (ps.toList.drop 1)).all (fun (a, next) => a.1 < next.1) = true) (ho : Op.lookupswitch.offset ps.toList dflt x.toInt = off) (ht : (pc : Int) + off = (tgt : Int)) (kk : GG l cc M b X tgt L st w k n) : GG l cc M b X pc L (.int x :: st) w k n := by
  intro p e s m args below meth c Q D A ad0 N F E ad cy H locs ls r P S hl
  exact lv_lookup F.1 F.2.1 hd hp ho ht (kk p e s m args below meth c Q D A ad0 N F E ad cy H locs ls r P S hl)
theorem G_eqi {x y : Int32} (h : x = y) (kk : GG l cc M b X pc L (.int y :: st) w k n) : GG l cc M b X pc L (.int x :: st) w k n := by subst h; exact kk
theorem G_iaddN {a c s : Nat} (hd : decode cc pc = .ok (.iadd, 1)) (hs : a + c = s) (kk : GG l cc M b X (pc + 1) L (.int (nI s) :: st) w k n) : GG l cc M b X pc L (.int (nI c) :: .int (nI a) :: st) w k n := G_iadd hd (G_eqi (by rw [nI_add, hs]) kk)
theorem G_imulN {a c s : Nat} (hd : decode cc pc = .ok (.imul, 1)) (hs : a * c = s) (kk : GG l cc M b X (pc + 1) L (.int (nI s) :: st) w k n) : GG l cc M b X pc L (.int (nI c) :: .int (nI a) :: st) w k n := G_imul hd (G_eqi (by rw [pk_mul, hs]) kk)
theorem G_isubN {a c s : Nat} (hd : decode cc pc = .ok (.isub, 1)) (hs : a = s + c) (kk : GG l cc M b X (pc + 1) L (.int (nI s) :: st) w k n) : GG l cc M b X pc L (.int (nI c) :: .int (nI a) :: st) w k n := G_isub hd (G_eqi (by rw [pk_sub (by omega)]; congr 1; omega) kk)
theorem G_idivN {a c s : Nat} (hd : decode cc pc = .ok (.idiv, 1)) (hb : a < 2147483648 ∧ 0 < c ∧ c < 2147483648) (hs : a / c = s) (kk : GG l cc M b X (pc + 1) L (.int (nI s) :: st) w k n) : GG l cc M b X pc L (.int (nI c) :: .int (nI a) :: st) w k n := G_idiv hd (nI_ne0 hb.2.1 hb.2.2) (G_eqi (by rw [pk_div hb.1 hb.2.1 hb.2.2, hs]) kk)
theorem G_iremN {a c s : Nat} (hd : decode cc pc = .ok (.irem, 1)) (hb : a < 2147483648 ∧ 0 < c ∧ c < 2147483648) (hs : a % c = s) (kk : GG l cc M b X (pc + 1) L (.int (nI s) :: st) w k n) : GG l cc M b X pc L (.int (nI c) :: .int (nI a) :: st) w k n := G_irem hd (nI_ne0 hb.2.1 hb.2.2) (G_eqi (by rw [pk_rem hb.1 hb.2.1 hb.2.2, hs]) kk)
theorem G_iincN {i a s : Nat} {L' : mj_L} (hd : decode cc pc = .ok (.iinc i 1, 3)) (hi : L[i]? = some (some (.int (nI a)))) (hs : a + 1 = s) (hL : mj_st L i (.int (nI s)) = L') (kk : GG l cc M b X (pc + 3) L' st w k n) : GG l cc M b X pc L st w k n := G_iinc hd hi (by rw [← hs]; exact nI_1 a) hL kk
theorem G_icmp_eqN {a c : Nat} {off : Int} (tgt : Nat) (hd : decode cc pc = .ok (.if_icmp .eq off, 3)) (ht : (pc : Int) + off = (tgt : Int)) (ha : a < 2147483648 ∧ c < 2147483648) (kt : a = c → GG l cc M b X tgt L st w k n) (kf : ¬ a = c → GG l cc M b X (pc + 3) L st w k n) : GG l cc M b X pc L (.int (nI c) :: .int (nI a) :: st) w k n := G_icmp_eq tgt hd ht (fun q => kt ((nI_eq ha.1 ha.2).mp q)) (fun q => kf (fun z => q ((nI_eq ha.1 ha.2).mpr z)))
theorem G_icmp_neN {a c : Nat} {off : Int} (tgt : Nat) (hd : decode cc pc = .ok (.if_icmp .ne off, 3)) (ht : (pc : Int) + off = (tgt : Int)) (ha : a < 2147483648 ∧ c < 2147483648) (kt : ¬ a = c → GG l cc M b X tgt L st w k n) (kf : a = c → GG l cc M b X (pc + 3) L st w k n) : GG l cc M b X pc L (.int (nI c) :: .int (nI a) :: st) w k n := G_icmp_ne tgt hd ht (fun q => kt (fun z => q ((nI_eq ha.1 ha.2).mpr z))) (fun q => kf ((nI_eq ha.1 ha.2).mp q))
theorem G_icmp_ltN {a c : Nat} {off : Int} (tgt : Nat) (hd : decode cc pc = .ok (.if_icmp .lt off, 3)) (ht : (pc : Int) + off = (tgt : Int)) (ha : a < 2147483648 ∧ c < 2147483648) (kt : a < c → GG l cc M b X tgt L st w k n) (kf : c ≤ a → GG l cc M b X (pc + 3) L st w k n) : GG l cc M b X pc L (.int (nI c) :: .int (nI a) :: st) w k n := G_icmp_lt tgt hd ht (fun q => kt ((nI_ltI ha.1 ha.2).mp q)) (fun q => kf (by have z : ¬ _ := fun z => q ((nI_ltI ha.1 ha.2).mpr z); omega))
theorem G_icmp_geN {a c : Nat} {off : Int} (tgt : Nat) (hd : decode cc pc = .ok (.if_icmp .ge off, 3)) (ht : (pc : Int) + off = (tgt : Int)) (ha : a < 2147483648 ∧ c < 2147483648) (kt : c ≤ a → GG l cc M b X tgt L st w k n) (kf : a < c → GG l cc M b X (pc + 3) L st w k n) : GG l cc M b X pc L (.int (nI c) :: .int (nI a) :: st) w k n := G_icmp_ge tgt hd ht (fun q => kt ((nI_leI ha.2 ha.1).mp q)) (fun q => kf (by have z : ¬ _ := fun z => q ((nI_leI ha.2 ha.1).mpr z); omega))
theorem G_icmp_gtN {a c : Nat} {off : Int} (tgt : Nat) (hd : decode cc pc = .ok (.if_icmp .gt off, 3)) (ht : (pc : Int) + off = (tgt : Int)) (ha : a < 2147483648 ∧ c < 2147483648) (kt : c < a → GG l cc M b X tgt L st w k n) (kf : a ≤ c → GG l cc M b X (pc + 3) L st w k n) : GG l cc M b X pc L (.int (nI c) :: .int (nI a) :: st) w k n := G_icmp_gt tgt hd ht (fun q => kt ((nI_ltI ha.2 ha.1).mp q)) (fun q => kf (by have z : ¬ _ := fun z => q ((nI_ltI ha.2 ha.1).mpr z); omega))
theorem G_icmp_leN {a c : Nat} {off : Int} (tgt : Nat) (hd : decode cc pc = .ok (.if_icmp .le off, 3)) (ht : (pc : Int) + off = (tgt : Int)) (ha : a < 2147483648 ∧ c < 2147483648) (kt : a ≤ c → GG l cc M b X tgt L st w k n) (kf : c < a → GG l cc M b X (pc + 3) L st w k n) : GG l cc M b X pc L (.int (nI c) :: .int (nI a) :: st) w k n := G_icmp_le tgt hd ht (fun q => kt ((nI_leI ha.1 ha.2).mp q)) (fun q => kf (by have z : ¬ _ := fun z => q ((nI_leI ha.1 ha.2).mpr z); omega))
theorem G_if_ltN {a : Nat} {off : Int} (tgt : Nat) (hd : decode cc pc = .ok (.ifCond .lt off, 3)) (ht : (pc : Int) + off = (tgt : Int)) (ha : a < 2147483648) (kf : GG l cc M b X (pc + 3) L st w k n) : GG l cc M b X pc L (.int (nI a) :: st) w k n := G_if_lt tgt hd ht (fun q => absurd q (nI_pos ha)) (fun _ => kf)
theorem G_if_geN {a : Nat} {off : Int} (tgt : Nat) (hd : decode cc pc = .ok (.ifCond .ge off, 3)) (ht : (pc : Int) + off = (tgt : Int)) (ha : a < 2147483648) (kt : GG l cc M b X tgt L st w k n) : GG l cc M b X pc L (.int (nI a) :: st) w k n := G_if_ge tgt hd ht (fun _ => kt) (fun q => absurd (nI_pos' ha) q)
theorem G_if_eqN {a : Nat} {off : Int} (tgt : Nat) (hd : decode cc pc = .ok (.ifCond .eq off, 3)) (ht : (pc : Int) + off = (tgt : Int)) (ha : a < 2147483648) (kt : a = 0 → GG l cc M b X tgt L st w k n) (kf : 0 < a → GG l cc M b X (pc + 3) L st w k n) : GG l cc M b X pc L (.int (nI a) :: st) w k n := G_if_eq tgt hd ht (fun q => kt ((nI_eq (b := 0) ha (by omega)).mp q)) (fun q => kf (by have z : ¬ a = 0 := fun z => q ((nI_eq (b := 0) ha (by omega)).mpr z); omega))
theorem G_if_neN {a : Nat} {off : Int} (tgt : Nat) (hd : decode cc pc = .ok (.ifCond .ne off, 3)) (ht : (pc : Int) + off = (tgt : Int)) (ha : a < 2147483648) (kt : 0 < a → GG l cc M b X tgt L st w k n) (kf : a = 0 → GG l cc M b X (pc + 3) L st w k n) : GG l cc M b X pc L (.int (nI a) :: st) w k n := G_if_ne tgt hd ht (fun q => kt (by have z : ¬ a = 0 := fun z => q ((nI_eq (b := 0) ha (by omega)).mpr z); omega)) (fun q => kf ((nI_eq (b := 0) ha (by omega)).mp q))
end MJR
end
section
/-! MINI, second: fields, arrays, calls, and the contract out of a walk -/
def mj_fl (M : mj_M) (idx ci kf : Nat) : Prop := ∃ (C : String) (T : u_T) (N : Nat), vwCl[ci]? = some (C, T, N) ∧ (∀ x ∈ u_ws C T N, x ∈ M.2.2.1) ∧ kf < N ∧ Cond.fieldLink M.1 idx (T kf).1 (T kf).2.1 (T kf).2.2.1 ∈ M.2.2.1
def mj_flp (M : mj_M) (idx ci kf : Nat) (ty : FieldType) : Prop := ∃ (C : String) (T : u_T) (N : Nat) (ty0 : Nat → FieldType), vwCl[ci]? = some (C, T, N) ∧ (∀ x ∈ u_ws C T N, x ∈ M.2.2.1) ∧ kf < N ∧ Cond.fieldLink M.1 idx (T kf).1 (T kf).2.1 (T kf).2.2.1 ∈ M.2.2.1 ∧ (∀ k, k < N → parseFieldDescriptor (T k).2.2.1 = some (ty0 k)) ∧ (∀ a, a < N → ∀ b, b < N → a ≠ b → (T a).2.1 ≠ (T b).2.1) ∧ parseFieldDescriptor (T kf).2.2.1 = some ty ∧ ((T kf).2.2.2 = false ∨ ((T kf).2.2.2 = true ∧ M.2.2.2.2.1 = true ∧ (T kf).1 = M.1))
theorem mj_w_setO {ad : Nat → Nat} {cy : Nat → ClassId} {w : mj_W} {o ci kf : Nat} {fs : List Value} {v : Value} : (mj_w ad cy w).set o (ad o, .inr (ci, (fs.map (mj_v ad)).set kf (mj_v ad v))) = mj_w ad cy (w.set o (.inr (ci, fs.set kf v))) := by
  rw [← mj_w_set]
  simp [mj_e, List.map_set]
theorem mj_w_setA {ad : Nat → Nat} {cy : Nat → ClassId} {w : mj_W} {o : Nat} {ty : FieldType} {a : vp_A} : (mj_w ad cy w).set o (ad o, .inl (cy o, a)) = mj_w ad cy (w.set o (.inl (ty, a))) := by
  rw [← mj_w_set]
  simp [mj_e]
theorem mj_hts {l : Launch} {cc : ByteArray} {M : mj_M} {D : va_G} {A : Nat → Prop} {p : Program} {s : State} {m : MethodId} {args : Array Value} {meth : Method} {c : Code} (F : mj_F l cc M D A p s m args meth c) : ∀ w ∈ M.2.2.1, w.before args s = true := F.2.2.2.2.1
theorem mj_hK {l : Launch} {cc : ByteArray} {M : mj_M} {D : va_G} {A : Nat → Prop} {p : Program} {s : State} {m : MethodId} {args : Array Value} {meth : Method} {c : Code} (F : mj_F l cc M D A p s m args meth c) : va_K D vwCl [] s := F.2.2.2.2.2.1
theorem mj_hA {l : Launch} {cc : ByteArray} {M : mj_M} {D : va_G} {A : Nat → Prop} {p : Program} {s : State} {m : MethodId} {args : Array Value} {meth : Method} {c : Code} (F : mj_F l cc M D A p s m args meth c) : ∀ q, s.heap.size ≤ q → A q := F.2.2.2.2.2.2.1
theorem mj_hX {l : Launch} {cc : ByteArray} {M : mj_M} {D : va_G} {A : Nat → Prop} {p : Program} {s : State} {m : MethodId} {args : Array Value} {meth : Method} {c : Code} (F : mj_F l cc M D A p s m args meth c) : mj_X A s s.heap := F.2.2.2.2.2.2.2.1
theorem mj_hI {l : Launch} {cc : ByteArray} {M : mj_M} {D : va_G} {A : Nat → Prop} {p : Program} {s : State} {m : MethodId} {args : Array Value} {meth : Method} {c : Code} (F : mj_F l cc M D A p s m args meth c) : M.2.2.2.2.1 = true → meth.name = "<init>" := F.2.2.2.2.2.2.2.2.1
section MJH
variable {l : Launch} {cc : ByteArray} {M : mj_M} {b : Bool} {X : mj_R} {pc : Nat} {L : mj_L} {st : List Value} {w : mj_W} {k n : Nat}
theorem G_getf {idx ci kf o : Nat} {fs : List Value} {v : Value} (hd : decode cc pc = .ok (.getfield idx, 3)) (hf : mj_fl M idx ci kf) (hw : w[o]? = some (.inr (ci, fs))) (hv : fs[kf]? = some v) (kk : GG l cc M b X (pc + 3) L (v :: st) w k n) : GG l cc M b X pc L (.ref o :: st) w k n := by
  intro p e s m args below meth c Q D A ad0 N F E ad cy H locs ls r P S hl
  obtain ⟨C, T, N1, hc, hin, hk, hlink⟩ := hf
  exact va_get (D := D) (ci := ci) (v := mj_v ad v) (C := C) (T := T) (N := N1) (ref := (T kf).1) F.1 F.2.1 (mj_hts F) hin F.2.2.2.1 (mj_hK F) P.1 o (mj_w_get hw) hc kf hk (mj_hts F _ hlink) (fun _ h => h) (by rw [List.getElem?_map, hv]; rfl) hd (kk p e s m args below meth c Q D A ad0 N F E ad cy H locs ls r P S hl)
theorem G_putf {idx ci kf o : Nat} {fs : List Value} {v : Value} {ty : FieldType} (hd : decode cc pc = .ok (.putfield idx, 3)) (hf : mj_flp M idx ci kf ty) (hw : w[o]? = some (.inr (ci, fs))) (hfit : ∀ ad : Nat → Nat, narrow ty (mj_v ad v) = mj_v ad v ∧ fits ty (mj_v ad v) = true) (hlen : kf < fs.length) {w' : mj_W} (hw' : w.set o (.inr (ci, fs.set kf v)) = w') (kk : GG l cc M b X (pc + 3) L st w' k n) : GG l cc M b X pc L (v :: .ref o :: st) w k n := by
  intro p e s m args below meth c Q D A ad0 N F E ad cy H locs ls r P S hl
  obtain ⟨C, T, N1, ty0, hc, hin, hk, hlink, hty, hnm, hpd, hfin⟩ := hf
  have K : ∀ (H1 : Heap) (locs1 : List Loc), va_P D vwCl ((mj_w ad cy w).set o (ad o, .inr (ci, (fs.map (mj_v ad)).set kf (mj_v ad v)))) H1 → va_D A ((mj_w ad cy w).set o (ad o, .inr (ci, (fs.map (mj_v ad)).set kf (mj_v ad v)))) → va_S A s.heap H1 locs1 → W p l e M.2.2.2.1 s m args below meth c H1 locs1 k n Q (F0 m (pc + 3) ls (st.map (mj_v ad))) := by
    intro H1 locs1 hP hD hS
    rw [mj_w_setO] at hP hD
    subst hw'
    exact kk p e s m args below meth c Q D A ad0 N F E ad cy H1 locs1 ls (r.len (by simp)) ⟨hP, hD, P.2.2.setO⟩ hS hl
  rcases hfin with hfin | ⟨hfin, hini, hdecl⟩
  · exact va_put (D := D) (ci := ci) (v := mj_v ad v) (ty := ty) (C := C) (T := T) (N := N1) (ref := (T kf).1) F.1 F.2.1 (mj_hts F) hin ty0 hty hnm F.2.2.2.1 (mj_hK F) P.1 P.2.1 S o (mj_w_get hw) hc kf hk (mj_hts F _ hlink) (fun _ h => h) hfin hpd (hfit ad).1 (hfit ad).2 (by simpa using hlen) hd K
  · exact va_putF (D := D) (ci := ci) (v := mj_v ad v) (ty := ty) (C := C) (T := T) (N := N1) (ref := (T kf).1) F.1 F.2.1 (mj_hts F) hin ty0 hty hnm F.2.2.2.1 (mj_hK F) P.1 P.2.1 S o (mj_w_get hw) hc kf hk (mj_hts F _ hlink) (fun _ h => h) hfin (mj_hI F hini) hdecl hpd (hfit ad).1 (hfit ad).2 (by simpa using hlen) hd K
theorem G_iald {o nn : Nat} {f : Nat → Int32} {i : Int32} (hd : decode cc pc = .ok (.iaload, 1)) (hw : w[o]? = some (.inl (.int, (nn, .inl f)))) (hi : vp_in i nn) (kk : GG l cc M b X (pc + 1) L (.int (f i.toNatClampNeg) :: st) w k n) : GG l cc M b X pc L (.int i :: .ref o :: st) w k n := by
  intro p e s m args below meth c Q D A ad0 N F E ad cy H locs ls r P S hl
  exact va_iald F.1 F.2.1 (mj_K1 (mj_hK F) (P.2.2 o _ hw)) P.1 o 0 (mj_w_get hw) rfl hi hd (kk p e s m args below meth c Q D A ad0 N F E ad cy H locs ls r P S hl)
theorem G_cald {o nn : Nat} {f : Nat → Int32} {i : Int32} (hd : decode cc pc = .ok (.caload, 1)) (hw : w[o]? = some (.inl (.char, (nn, .inl f)))) (hi : vp_in i nn) (kk : GG l cc M b X (pc + 1) L (.int (f i.toNatClampNeg) :: st) w k n) : GG l cc M b X pc L (.int i :: .ref o :: st) w k n := by
  intro p e s m args below meth c Q D A ad0 N F E ad cy H locs ls r P S hl
  exact va_cald F.1 F.2.1 (mj_K1 (mj_hK F) (P.2.2 o _ hw)) P.1 o 0 (mj_w_get hw) rfl hi hd (kk p e s m args below meth c Q D A ad0 N F E ad cy H locs ls r P S hl)
theorem G_lald {o nn : Nat} {f : Nat → Int64} {i : Int32} (hd : decode cc pc = .ok (.laload, 1)) (hw : w[o]? = some (.inl (.long, (nn, .inr (.inl f))))) (hi : vp_in i nn) (kk : GG l cc M b X (pc + 1) L (.long (f i.toNatClampNeg) :: st) w k n) : GG l cc M b X pc L (.int i :: .ref o :: st) w k n := by
  intro p e s m args below meth c Q D A ad0 N F E ad cy H locs ls r P S hl
  exact va_lald F.1 F.2.1 (mj_K1 (mj_hK F) (P.2.2 o _ hw)) P.1 o 0 (mj_w_get hw) rfl hi hd (kk p e s m args below meth c Q D A ad0 N F E ad cy H locs ls r P S hl)
theorem G_iast {o nn : Nat} {f : Nat → Int32} {i x : Int32} (hd : decode cc pc = .ok (.iastore, 1)) (hw : w[o]? = some (.inl (.int, (nn, .inl f)))) (hi : vp_in i nn) {w' : mj_W} (hw' : w.set o (.inl (.int, (nn, .inl (upd f i.toNatClampNeg x)))) = w') (kk : GG l cc M b X (pc + 1) L st w' k n) : GG l cc M b X pc L (.int x :: .int i :: .ref o :: st) w k n := by
  intro p e s m args below meth c Q D A ad0 N F E ad cy H locs ls r P S hl
  refine va_iast F.1 F.2.1 (mj_K1 (mj_hK F) (P.2.2 o _ hw)) P.1 P.2.1 S o 0 (mj_w_get hw) rfl hi hd (fun H1 locs1 hP hD hS => ?_)
  rw [mj_w_setA (ty := .int)] at hP hD
  subst hw'
  exact kk p e s m args below meth c Q D A ad0 N F E ad cy H1 locs1 ls (r.len (by simp)) ⟨hP, hD, P.2.2.set hw⟩ hS hl
theorem G_cast {o nn : Nat} {f : Nat → Int32} {i x : Int32} (hd : decode cc pc = .ok (.castore, 1)) (hw : w[o]? = some (.inl (.char, (nn, .inl f)))) (hi : vp_in i nn) {w' : mj_W} (hw' : w.set o (.inl (.char, (nn, .inl (upd f i.toNatClampNeg (vp_nar .char x))))) = w') (kk : GG l cc M b X (pc + 1) L st w' k n) : GG l cc M b X pc L (.int x :: .int i :: .ref o :: st) w k n := by
  intro p e s m args below meth c Q D A ad0 N F E ad cy H locs ls r P S hl
  refine va_cast F.1 F.2.1 (mj_K1 (mj_hK F) (P.2.2 o _ hw)) P.1 P.2.1 S o 0 (mj_w_get hw) rfl hi hd (fun H1 locs1 hP hD hS => ?_)
  rw [mj_w_setA (ty := .char)] at hP hD
  subst hw'
  exact kk p e s m args below meth c Q D A ad0 N F E ad cy H1 locs1 ls (r.len (by simp)) ⟨hP, hD, P.2.2.set hw⟩ hS hl
theorem G_last {o nn : Nat} {f : Nat → Int64} {i : Int32} {x : Int64} (hd : decode cc pc = .ok (.lastore, 1)) (hw : w[o]? = some (.inl (.long, (nn, .inr (.inl f))))) (hi : vp_in i nn) {w' : mj_W} (hw' : w.set o (.inl (.long, (nn, .inr (.inl (vp_updL f i.toNatClampNeg x))))) = w') (kk : GG l cc M b X (pc + 1) L st w' k n) : GG l cc M b X pc L (.long x :: .int i :: .ref o :: st) w k n := by
  intro p e s m args below meth c Q D A ad0 N F E ad cy H locs ls r P S hl
  refine va_last F.1 F.2.1 (mj_K1 (mj_hK F) (P.2.2 o _ hw)) P.1 P.2.1 S o 0 (mj_w_get hw) rfl hi hd (fun H1 locs1 hP hD hS => ?_)
  rw [mj_w_setA (ty := .long)] at hP hD
  subst hw'
  exact kk p e s m args below meth c Q D A ad0 N F E ad cy H1 locs1 ls (r.len (by simp)) ⟨hP, hD, P.2.2.set hw⟩ hS hl
theorem G_alen {o : Nat} {ty : FieldType} {a : vp_A} {v : Int32} (hd : decode cc pc = .ok (.arraylength, 1)) (hw : w[o]? = some (.inl (ty, a))) (hv : Int32.ofNat a.1 = v) (kk : GG l cc M b X (pc + 1) L (.int v :: st) w k n) : GG l cc M b X pc L (.ref o :: st) w k n := by
  intro p e s m args below meth c Q D A ad0 N F E ad cy H locs ls r P S hl
  exact va_alen F.1 F.2.1 (mj_K1 (mj_hK F) (P.2.2 o _ hw)) P.1 o 0 (mj_w_get hw) rfl hv hd (kk p e s m args below meth c Q D A ad0 N F E ad cy H locs ls r P S hl)
/-- at the end -/
theorem G_end {v : Option Value} (hr : mj_ret cc pc v) (hX : X = .inl (v, w)) (hs : st = v.toList) (hk : k ≤ M.2.2.2.1.cells ∧ n ≤ M.2.2.2.1.slots) : GG l cc M b X pc L st w k n := by
  intro p e s m args below meth c Q D A ad0 N F E ad cy H locs ls r P S hl
  subst hX; subst hs
  exact E ad cy H locs ls pc k n r P S hk.1 hk.2 hr
end MJH
/-! contracts -/
def mj_Pc (D : va_G) (ad : Nat → Nat) (cy : Nat → ClassId) (w : mj_W) (sz : Nat) (as : List Value) : Array Value → State → Prop := va_Pc (as.map (mj_v ad)) (fun U => U.heap.size = sz ∧ va_P D vwCl (mj_w ad cy w) U.heap ∧ va_K D vwCl [] U ∧ va_D (fun _ => True) (mj_w ad cy w) ∧ mj_T cy w U ∧ mj_X (va_A (mj_w ad cy w) sz) U U.heap)
def mj_Qc (D : va_G) (ad : Nat → Nat) (cy : Nat → ClassId) (w : mj_W) (sz : Nat) (b : Bool) (v : Option Value) (w1 : mj_W) : Array Value → State → Outcome → State → Prop := fun _ st oc t => (∃ (ad1 : Nat → Nat) (cy1 : Nat → ClassId), mj_rel b w.length ad ad1 w1 ∧ oc = .returned (v.map (mj_v ad1)) ∧ va_P D vwCl (mj_w ad1 cy1 w1) t.heap ∧ va_D (va_A (mj_w ad cy w) sz) (mj_w ad1 cy1 w1) ∧ mj_T cy1 w1 t) ∧ va_F (va_A (mj_w ad cy w) sz) st t
/-- the method y, called with 'as' in the world w, answers v and leaves the world w1 -/
def MC (l : Launch) (y : MethodName) (ws : List Cond) (rm : Room) (b : Bool) (as : List Value) (w : mj_W) (v : Option Value) (w1 : mj_W) : Prop :=
  w.length ≤ 4000 → ∀ (D : va_G) (ad : Nat → Nat) (cy : Nat → ClassId) (sz : Nat), Met l y ws rm (mj_Pc D ad cy w sz as) (mj_Qc D ad cy w sz b v w1) rm.cells rm.slots (va_A (mj_w ad cy w) sz)
theorem mj_blind {D : va_G} {ad : Nat → Nat} {cy : Nat → ClassId} {w : mj_W} {sz : Nat} {as : List Value} : FrameBlind (mj_Pc D ad cy w sz as) := by
  intro a U g mk q
  obtain ⟨q0, q1, qP, qK, qD, qT, qX⟩ := q
  exact ⟨q0, q1, qP, va_K.moved (u := U) (U := U.calling g mk a) (Vm.Alike.refl U.vm) qK, qD, mj_T.moved (u := U) (U := U.calling g mk a) (Vm.Alike.refl U.vm) qT, mj_X.moved (u := U) (U := U.calling g mk a) (Vm.Alike.refl U.vm) qX⟩
theorem mj_free {D : va_G} {A : Nat → Prop} {ad : Nat → Nat} {cy : Nat → ClassId} {w : mj_W} {s : State} {H : Heap} {locs : List Loc} (P : mj_P D A ad cy w s H) (S : va_S A s.heap H locs) (hA : ∀ q, s.heap.size ≤ q → A q) : ∀ q, va_A (mj_w ad cy w) H.size q → A q := by
  rintro q (⟨k0, e0, h⟩ | h)
  · exact P.2.1.2 k0 (q, e0) h
  · exact hA q (Nat.le_trans S.1 h)
/-- what a callee asks, met -/
theorem mj_pre {l : Launch} {cc : ByteArray} {M : mj_M} {D : va_G} {A : Nat → Prop} {p : Program} {s : State} {m : MethodId} {args : Array Value} {meth : Method} {c : Code} (F : mj_F l cc M D A p s m args meth c) {ad : Nat → Nat} {cy : Nat → ClassId} {w : mj_W} {H : Heap} {locs : List Loc} (P : mj_P D A ad cy w s H) (S : va_S A s.heap H locs) {as : List Value} : ∀ U : State, U.heap = H → s.WarmedH U.vm → mj_Pc D ad cy w H.size as (as.map (mj_v ad)).toArray U := by
  intro U hU hW
  refine ⟨rfl, by rw [hU], by rw [hU]; exact P.1, va_K.moved hW.alike (mj_hK F), P.2.1.weaken (fun _ _ _ _ => trivial), P.2.2.moved hW.alike, ?_⟩
  rw [hU]
  exact ((((mj_hX F).kept S.2.1).narrow (mj_free P S (mj_hA F)))).moved hW.alike
section MJC
variable {p : Program} {l : Launch} {e : Env} {R : Room} {s : State} {m : MethodId} {args : Array Value} {below : List Frame} {meth : Method} {c : Code} {H : Heap} {locs : List Loc} {Q : State → Prop} {D : va_G} {A : Nat → Prop} {ad : Nat → Nat} {cy : Nat → ClassId}
/-- behind a call that returns -/
theorem mj_after {w w1 : mj_W} {k n mc ms pc : Nat} {ls : Array Slot} {st0 rest : List Value} {b1 : Bool} {v : Option Value} {a : Array Value} (hr : va_Run p l e R s m args below meth c H locs k n mc ms (F0 m pc ls st0) rest (mj_Qc D ad cy w H.size b1 v w1 a) (va_A (mj_w ad cy w) H.size)) (P : mj_P D A ad cy w s H) (S : va_S A s.heap H locs) (hA : ∀ q, s.heap.size ≤ q → A q)
    (kk : ∀ (ad1 : Nat → Nat) (cy1 : Nat → ClassId) (H1 : Heap) (locs1 : List Loc), mj_rel b1 w.length ad ad1 w1 → mj_P D A ad1 cy1 w1 s H1 → va_S A s.heap H1 locs1 → W p l e R s m args below meth c H1 locs1 (k + mc) (n + ms) Q (F0 m (pc + 3) ls ((v.map (mj_v ad1)).toList ++ rest))) : W p l e R s m args below meth c H locs k n Q (F0 m pc ls st0) := by
  intro T hT X
  have hA1 := mj_free P S hA
  obtain ⟨v', st₀, t, T', L, h0, X', hL, e1, e2, ⟨⟨ad1, cy1, hrel, hv, hPp, hDd, hTt⟩, hz, hk⟩, st⟩ := hr T hT X
  cases hv
  rw [h0] at hz hk
  obtain ⟨t2, a1, b1⟩ := kk ad1 cy1 T'.heap (locs ++ L) hrel ⟨by rw [e1]; exact hPp, hDd.weaken (fun k0 q _ h => hA1 _ h), hTt.moved (by rw [← e2]; exact X'.warmed.alike.symm)⟩
    ⟨Nat.le_trans S.1 (by rw [e1]; exact hz), fun q h1 h2 => by rw [e1, hk q (Nat.lt_of_lt_of_le h1 S.1) (fun z => h2 (hA1 q z))]; exact S.2.1 q h1 h2, fun q hq => by
      rcases List.mem_append.mp hq with h | h
      · exact S.2.2 q h
      · exact hA1 _ (hL q h)⟩ T' rfl X'
  exact ⟨t2, st t2 a1, b1⟩
end MJC
def mj_cwV (M : mj_M) (idx : Nat) (C : String) (y : MethodName) (ws : List Cond) (rm : Room) (na : Nat) : Prop := ∃ (bytes : ByteArray) (maxL : Nat) (ret : Option FieldType) (tl : List Cond), GoodIn M.2.2.1 (wsV M.1 idx C y ws) ∧ ws = Cond.code y bytes maxL ret :: tl ∧ (y.cls = C ∧ y.cls ≠ "java/lang/invoke/MethodHandle" ∧ y.cls ≠ "java/lang/invoke/VarHandle" ∧ (parseMethodDescriptor y.desc).map (fun d => d.parameters.length) = some na) ∧ (rm.frames + 1 ≤ M.2.2.2.1.frames ∧ 8 + (maxL + 11) + rm.locals ≤ M.2.2.2.1.locals)
def mj_cwS (M : mj_M) (idx : Nat) (y : MethodName) (ws : List Cond) (rm : Room) (na : Nat) : Prop := ∃ (bytes : ByteArray) (maxL : Nat) (ret : Option FieldType) (tl : List Cond), GoodIn M.2.2.1 (va_wsS M.1 idx y ws) ∧ ws = Cond.code y bytes maxL ret :: tl ∧ (y.cls ≠ "java/lang/invoke/MethodHandle" ∧ y.cls ≠ "java/lang/invoke/VarHandle" ∧ (parseMethodDescriptor y.desc).map (fun d => d.parameters.length) = some na) ∧ (rm.frames + 1 ≤ M.2.2.2.1.frames ∧ 8 + (maxL + 11) + rm.locals ≤ M.2.2.2.1.locals)
theorem mj_tl (ad : Nat → Nat) (v : Option Value) (rest : List Value) : (v.map (mj_v ad)).toList ++ rest.map (mj_v ad) = (v.toList ++ rest).map (mj_v ad) := by cases v <;> rfl
theorem mj_rel.next {b b1 : Bool} {N : Nat} {ad0 ad ad1 : Nat → Nat} {w w1 : mj_W} (r : mj_rel b N ad0 ad w) (h : mj_rel b1 w.length ad ad1 w1) (hb : b = false → b1 = false) : mj_rel b N ad0 ad1 w1 := by
  refine ⟨fun q => (h.1 (hb q)).trans (r.1 q), fun k hk => ?_, Nat.le_trans r.2.2.1 h.2.2.1, h.2.2.2⟩
  rw [h.2.1 k (hk.imp (fun q => Nat.lt_of_lt_of_le q r.2.2.1) id), r.2.1 k hk]
section MJD
variable {l : Launch} {cc : ByteArray} {M : mj_M} {b : Bool} {X : mj_R} {pc : Nat} {L : mj_L} {st rest : List Value} {w w1 : mj_W} {k n : Nat} {y : MethodName} {ws : List Cond} {rm : Room} {as : List Value} {v : Option Value} {idx na : Nat}
theorem G_callV {C : String} {T : u_T} {N1 ci o : Nat} {fs : List Value} (hd : decode cc pc = .ok (.invokevirtual idx, 3)) (hcw : mj_cwV M idx C y ws rm na) (h0 : rm.cells = 0 ∧ rm.slots = 0) (hk0 : k ≤ M.2.2.2.1.cells ∧ n ≤ M.2.2.2.1.slots) (hM : MC l y ws rm false (.ref o :: as) w v w1) (hn : as.length = na) (hcl : vwCl[ci]? = some (C, T, N1)) (hw : w[o]? = some (.inr (ci, fs))) (hst : st = as.reverse ++ .ref o :: rest) (hcat : (rest.map fun v => v.category).sum ≤ 8) (kk : GG l cc M b X (pc + 3) L (v.toList ++ rest) w1 k n) : GG l cc M b X pc L st w k n := by
  intro p e s m args below meth c Q D A ad0 N F E ad cy H locs ls r P S hl
  obtain ⟨bytes, maxL, ret, tl, hg, hws, hdd, hR⟩ := hcw
  subst hst
  refine mj_after (va_runV (As := as.map (mj_v ad)) (rest := rest.map (mj_v ad)) (b := ad o) ⟨F.1, F.2.1, F.2.2.1, F.2.2.2.1, mj_hts F⟩ (hM r.2.2.2 D ad cy H.size) (cwV na (mj_hts F) hg hws rfl rfl hdd hR) ⟨mj_blind, va_recv (mj_hK F) P.1 hcl (mj_w_get hw), mj_pre F P S⟩ rfl (by rw [List.length_map]; exact hn) hl.2.1 (by simp [mj_v]) (lv_room (by rw [mj_cats]; exact hcat)) hd (by rw [h0.1, h0.2]; exact hk0)) P S (mj_hA F) (fun ad1 cy1 H1 locs1 hrel hP1 hS1 => ?_)
  have ea : ad1 = ad := hrel.1 rfl
  subst ea
  rw [mj_tl, h0.1, h0.2]
  exact kk p e s m args below meth c Q D A ad0 N F E ad1 cy1 H1 locs1 ls (r.next hrel (fun _ => rfl)) hP1 hS1 hl
theorem G_callS (hd : decode cc pc = .ok (.invokestatic idx, 3)) (hcw : mj_cwS M idx y ws rm na) (h0 : rm.cells = 0 ∧ rm.slots = 0) (hk0 : k ≤ M.2.2.2.1.cells ∧ n ≤ M.2.2.2.1.slots) (hM : MC l y ws rm false as w v w1) (hn : as.length = na) (hst : st = as.reverse ++ rest) (hcat : (rest.map fun v => v.category).sum ≤ 8) (kk : GG l cc M b X (pc + 3) L (v.toList ++ rest) w1 k n) : GG l cc M b X pc L st w k n := by
  intro p e s m args below meth c Q D A ad0 N F E ad cy H locs ls r P S hl
  obtain ⟨bytes, maxL, ret, tl, hg, hws, hdd, hR⟩ := hcw
  subst hst
  refine mj_after (va_runS (As := as.map (mj_v ad)) (rest := rest.map (mj_v ad)) ⟨F.1, F.2.1, F.2.2.1, F.2.2.2.1, mj_hts F⟩ (hM r.2.2.2 D ad cy H.size) (va_cwS na (mj_hts F) hg hws rfl rfl hdd hR) ⟨mj_blind, mj_pre F P S⟩ rfl (by rw [List.length_map]; exact hn) hl.2.1 (by simp) (lv_room (by rw [mj_cats]; exact hcat)) hd (by rw [h0.1, h0.2]; exact hk0)) P S (mj_hA F) (fun ad1 cy1 H1 locs1 hrel hP1 hS1 => ?_)
  have ea : ad1 = ad := hrel.1 rfl
  subst ea
  rw [mj_tl, h0.1, h0.2]
  exact kk p e s m args below meth c Q D A ad0 N F E ad1 cy1 H1 locs1 ls (r.next hrel (fun _ => rfl)) hP1 hS1 hl
theorem G_min {x z : Int32} (hd : decode cc pc = .ok (.invokestatic idx, 3)) (hw : Cond.methodLink M.1 idx Lib.Math.min.name ∈ M.2.2.1 ∧ Cond.static Lib.Math.min.name ∈ M.2.2.1 ∧ Cond.initialized "java/lang/Math" ∈ M.2.2.1 ∧ Cond.code Lib.Math.min.name Lib.Math.min.code 2 (some .int) ∈ M.2.2.1) (hR : 1 ≤ M.2.2.2.1.frames ∧ 21 ≤ M.2.2.2.1.locals) (hk0 : k ≤ M.2.2.2.1.cells ∧ n ≤ M.2.2.2.1.slots) (hcat : (rest.map fun v => v.category).sum ≤ 8) (kk : GG l cc M b X (pc + 3) L (.int (if z < x then z else x) :: rest) w k n) : GG l cc M b X pc L (.int z :: .int x :: rest) w k n := by
  intro p e s m args below meth c Q D A ad0 N F E ad cy H locs ls r P S hl
  exact va_mmin F.1 F.2.1 (F.2.2.1.trans hl.2.1.symm) F.2.2.2.1 (mj_hts F _ hw.1) (mj_hts F _ hw.2.1) (mj_hts F _ hw.2.2.1) (mj_hts F _ hw.2.2.2) hR.1 (by rw [mj_cats]; omega) hk0.1 hk0.2 hd (kk p e s m args below meth c Q D A ad0 N F E ad cy H locs ls r P S hl)
theorem G_max {x z : Int32} (hd : decode cc pc = .ok (.invokestatic idx, 3)) (hw : Cond.methodLink M.1 idx Lib.Math.max.name ∈ M.2.2.1 ∧ Cond.static Lib.Math.max.name ∈ M.2.2.1 ∧ Cond.initialized "java/lang/Math" ∈ M.2.2.1 ∧ Cond.code Lib.Math.max.name Lib.Math.max.code 2 (some .int) ∈ M.2.2.1) (hR : 1 ≤ M.2.2.2.1.frames ∧ 21 ≤ M.2.2.2.1.locals) (hk0 : k ≤ M.2.2.2.1.cells ∧ n ≤ M.2.2.2.1.slots) (hcat : (rest.map fun v => v.category).sum ≤ 8) (kk : GG l cc M b X (pc + 3) L (.int (if x < z then z else x) :: rest) w k n) : GG l cc M b X pc L (.int z :: .int x :: rest) w k n := by
  intro p e s m args below meth c Q D A ad0 N F E ad cy H locs ls r P S hl
  exact va_mmax F.1 F.2.1 (F.2.2.1.trans hl.2.1.symm) F.2.2.2.1 (mj_hts F _ hw.1) (mj_hts F _ hw.2.1) (mj_hts F _ hw.2.2.1) (mj_hts F _ hw.2.2.2) hR.1 (by rw [mj_cats]; omega) hk0.1 hk0.2 hd (kk p e s m args below meth c Q D A ad0 N F E ad cy H locs ls r P S hl)
end MJD
/-! the contract out of a walk -/
def mj_sl (as : List Value) : mj_L := as.flatMap fun v => if v.category = 2 then [some v, none] else [some v]
def mj_in (as : List Value) (nl : Nat) : mj_L := mj_sl as ++ List.replicate (nl - (mj_sl as).length) none
theorem mj_sl_mem (ad : Nat → Nat) (r : Nat) : ∀ (as : List Value) (j i : Nat) (v : Value), (mj_sl as ++ List.replicate r none)[i]? = some (some v) → (j + i, mj_v ad v) ∈ lv_args j (as.map (mj_v ad))
  | [], j, i, v, h => by
    simp only [mj_sl, List.flatMap_nil, List.nil_append, List.getElem?_replicate] at h
    split at h <;> cases h
  | a :: as, j, i, v, h => by
    simp only [List.map_cons, lv_args, mj_cat]
    by_cases hc : a.category = 2
    · have e : mj_sl (a :: as) = some a :: none :: mj_sl as := by simp [mj_sl, hc]
      rw [e] at h
      match i, h with
      | 0, h => cases h; exact List.mem_cons_self
      | 1, h => cases h
      | i + 2, h =>
        have h' : (mj_sl as ++ List.replicate r none)[i]? = some (some v) := h
        have q := mj_sl_mem ad r as (j + 2) i v h'
        rw [if_pos hc]
        rw [show j + (i + 2) = j + 2 + i by omega]
        exact List.mem_cons_of_mem _ q
    · have e : mj_sl (a :: as) = some a :: mj_sl as := by simp [mj_sl, hc]
      rw [e] at h
      match i, h with
      | 0, h => cases h; exact List.mem_cons_self
      | i + 1, h =>
        have h' : (mj_sl as ++ List.replicate r none)[i]? = some (some v) := h
        have q := mj_sl_mem ad r as (j + 1) i v h'
        rw [if_neg hc]
        rw [show j + (i + 1) = j + 1 + i by omega]
        exact List.mem_cons_of_mem _ q
theorem mj_sl_len (ad : Nat → Nat) : ∀ as : List Value, (lg_sl (as.map (mj_v ad))).length = (mj_sl as).length
  | [] => rfl
  | a :: as => by
    have h := mj_sl_len ad as
    simp only [lg_sl, mj_sl, List.map_cons, List.flatMap_cons, List.length_append, mj_cat] at h ⊢
    split <;> simp_all
def mj_rt (ret : Option FieldType) (v : Option Value) : Prop := match v with
  | none => ret = none
  | some (.int x) => ∃ ty, ret = some ty ∧ narrow ty (.int x) = .int x
  | some (.long _) => ret = some .long
  | some (.double _) => ret = some .double
  | _ => False
theorem mj_ofW {l : Launch} {y : MethodName} {ws ws' : List Cond} {rm : Room} {Pc : Array Value → State → Prop} {Qc : Array Value → State → Outcome → State → Prop} {mc ms : Nat} {free : Addr → Prop} {cc : ByteArray} {maxL : Nat} {ret : Option FieldType}
    (hy : plainFor y = true) (hw : ws = Cond.code y cc maxL ret :: ws')
    (body : ∀ p e s m args below meth c s₁, BodyLoose p l y (headSpec ws rm) cc maxL ret e s m args below meth c s₁ → c.maxLocals = maxL → Pc args s →
      W p l e (headSpec ws rm).room s m args below meth c s.heap [] 0 0 (MQ below Qc args s mc ms free) (entryFrame m args maxL)) : Met l y ws rm Pc Qc mc ms free := by
  refine MetFree.of_bodySF (code := cc) (maxLocals := maxL) (ret := ret) hy ?_ ?_
  · intro args s m h hn
    obtain ⟨meth, c, h1, h2, h3, h4, h5, h6, -, -⟩ := Cond.code_spec hn (atoms_spec (ws := ws) h _ (by rw [hw]; exact List.mem_cons_self))
    exact ⟨meth, c, h1, h2, h3, h4, h5, h6⟩
  · intro p e s m args below meth c s₁ B hml hP _
    have hh0 : s₁.heap = s.heap := by rw [B.state]; rfl
    obtain ⟨t, a1, o, b1, b2, b3⟩ := body p e s m args below meth c s₁ B hml hP s₁ hh0 (Stand.of_body B)
    exact ⟨t, o, a1, b1, b2, ⟨b3.1, b3.2⟩⟩
theorem mj_MC {l : Launch} {y : MethodName} {ws ws' : List Cond} {rm : Room} {b : Bool} {as : List Value} {w w1 : mj_W} {v : Option Value} {cc : ByteArray} {nl : Nat} {ret : Option FieldType} (hy : plainFor y = true) (hw : ws = Cond.code y cc nl ret :: ws') (hrt : mj_rt ret v) (hlen : (mj_sl as).length ≤ nl)
    (hG : GG l cc (y.cls, nl, ws, rm, y.name == "<init>", none) b (.inl (v, w1)) 0 (mj_in as nl) [] w 0 0) : MC l y ws rm b as w v w1 := by
  intro hw4 D ad cy sz
  refine mj_ofW (cc := cc) (maxL := nl) (ret := ret) hy hw ?_
  intro p e s m args below meth c s₁ B hml hv
  obtain ⟨rfl, hsz, hP, hK, hD, hT, hX⟩ := hv
  have hts := atoms_spec (ws := ws) B.pre
  subst hsz
  rw [lg_entry_eq]
  have hlen' : (lg_sl (as.map (mj_v ad))).length ≤ nl := by rw [mj_sl_len]; exact hlen
  have hl := lv_entry (as.map (mj_v ad)) (n := nl) hlen'
  refine hG p e s m _ below meth c _ D (va_A (mj_w ad cy w) s.heap.size) ad w.length ⟨B.exec, B.bytes, hml, findClass_of_methodNamed B.named, hts, hK, fun q h => Or.inr h, hX, fun q => ?_, fun t q => by cases q⟩ ?_ ad cy s.heap [] _ ⟨fun _ => rfl, fun _ _ => rfl, Nat.le_refl _, hw4⟩ ⟨hP, hD.self, hT⟩ va_S.rf ⟨?_, hl.1, hl.2.1, ?_⟩
  · have q' : y.name = "<init>" := by simpa using q
    exact (name_of_methodNamed B.named B.method).1.trans q'
  · intro ad1 cy1 H1 locs1 ls1 pc1 k1 n1 hrel hP1 hS1 hk1 hn1 hret
    refine W.widen hk1 hn1 ?_
    have post : ∀ t : State, t.heap = H1 → s.WarmedH t.vm → mj_Qc D ad cy w s.heap.size b v w1 (as.map (mj_v ad)).toArray s (.returned (v.map (mj_v ad1))) t := fun t ht hW => ⟨⟨ad1, cy1, hrel, rfl, by rw [ht]; exact hP1.1, hP1.2.1, hP1.2.2.moved hW.alike⟩, hS1.F ht⟩
    match v, hrt, hret, post with
    | none, hrt, hret, post => exact W.vret B.exec B.bytes (B.returns.trans hrt) post hS1.2.2 hret B.notSynchronized
    | some (.int x), ⟨ty, h1, h2⟩, hret, post => exact W.zret B.exec B.bytes (B.returns.trans h1) h2 post hS1.2.2 hret B.notSynchronized
    | some (.long x), hrt, hret, post => exact W.lret B.exec B.bytes (B.returns.trans hrt) post hS1.2.2 hret B.notSynchronized
    | some (.double x), hrt, hret, post => exact W.dret B.exec B.bytes (B.returns.trans hrt) post hS1.2.2 hret B.notSynchronized
  · simp only [mj_in, List.length_append, List.length_replicate]; omega
  · rintro ⟨i, x⟩ hq
    obtain ⟨u, hu, rfl⟩ := mj_lv_mem.mp hq
    have h := mj_sl_mem ad _ as 0 i u hu
    rw [Nat.zero_add] at h
    exact hl.2.2 _ h
section MJE
variable {l : Launch} {cc : ByteArray} {M : mj_M} {b : Bool} {X : mj_R} {pc : Nat} {L : mj_L} {st rest : List Value} {w w1 : mj_W} {k n : Nat} {y : MethodName} {ws : List Cond} {rm : Room} {as : List Value} {v : Option Value} {idx na : Nat}
theorem G_callVi {x : Int32} {C : String} {T : u_T} {N1 ci o : Nat} {fs : List Value} (hd : decode cc pc = .ok (.invokevirtual idx, 3)) (hcw : mj_cwV M idx C y ws rm na) (h0 : rm.cells = 0 ∧ rm.slots = 0) (hk0 : k ≤ M.2.2.2.1.cells ∧ n ≤ M.2.2.2.1.slots) (hM : MC l y ws rm false (.ref o :: as) w (some (.int x)) w1) (hn : as.length = na) (hcl : vwCl[ci]? = some (C, T, N1)) (hw : w[o]? = some (.inr (ci, fs))) (hst : st = as.reverse ++ .ref o :: rest) (hcat : Nat.ble (rest.map fun v => v.category).sum 8 = true) (kk : GG l cc M b X (pc + 3) L (.int x :: rest) w1 k n) : GG l cc M b X pc L st w k n := G_callV hd hcw h0 hk0 hM hn hcl hw hst (Nat.le_of_ble_eq_true hcat) kk
theorem G_callVl {x : Int64} {C : String} {T : u_T} {N1 ci o : Nat} {fs : List Value} (hd : decode cc pc = .ok (.invokevirtual idx, 3)) (hcw : mj_cwV M idx C y ws rm na) (h0 : rm.cells = 0 ∧ rm.slots = 0) (hk0 : k ≤ M.2.2.2.1.cells ∧ n ≤ M.2.2.2.1.slots) (hM : MC l y ws rm false (.ref o :: as) w (some (.long x)) w1) (hn : as.length = na) (hcl : vwCl[ci]? = some (C, T, N1)) (hw : w[o]? = some (.inr (ci, fs))) (hst : st = as.reverse ++ .ref o :: rest) (hcat : Nat.ble (rest.map fun v => v.category).sum 8 = true) (kk : GG l cc M b X (pc + 3) L (.long x :: rest) w1 k n) : GG l cc M b X pc L st w k n := G_callV hd hcw h0 hk0 hM hn hcl hw hst (Nat.le_of_ble_eq_true hcat) kk
theorem G_callVd {x : UInt64} {C : String} {T : u_T} {N1 ci o : Nat} {fs : List Value} (hd : decode cc pc = .ok (.invokevirtual idx, 3)) (hcw : mj_cwV M idx C y ws rm na) (h0 : rm.cells = 0 ∧ rm.slots = 0) (hk0 : k ≤ M.2.2.2.1.cells ∧ n ≤ M.2.2.2.1.slots) (hM : MC l y ws rm false (.ref o :: as) w (some (.double x)) w1) (hn : as.length = na) (hcl : vwCl[ci]? = some (C, T, N1)) (hw : w[o]? = some (.inr (ci, fs))) (hst : st = as.reverse ++ .ref o :: rest) (hcat : Nat.ble (rest.map fun v => v.category).sum 8 = true) (kk : GG l cc M b X (pc + 3) L (.double x :: rest) w1 k n) : GG l cc M b X pc L st w k n := G_callV hd hcw h0 hk0 hM hn hcl hw hst (Nat.le_of_ble_eq_true hcat) kk
theorem G_callVv {C : String} {T : u_T} {N1 ci o : Nat} {fs : List Value} (hd : decode cc pc = .ok (.invokevirtual idx, 3)) (hcw : mj_cwV M idx C y ws rm na) (h0 : rm.cells = 0 ∧ rm.slots = 0) (hk0 : k ≤ M.2.2.2.1.cells ∧ n ≤ M.2.2.2.1.slots) (hM : MC l y ws rm false (.ref o :: as) w none w1) (hn : as.length = na) (hcl : vwCl[ci]? = some (C, T, N1)) (hw : w[o]? = some (.inr (ci, fs))) (hst : st = as.reverse ++ .ref o :: rest) (hcat : Nat.ble (rest.map fun v => v.category).sum 8 = true) (kk : GG l cc M b X (pc + 3) L rest w1 k n) : GG l cc M b X pc L st w k n := G_callV hd hcw h0 hk0 hM hn hcl hw hst (Nat.le_of_ble_eq_true hcat) kk
theorem G_callSi {x : Int32} (hd : decode cc pc = .ok (.invokestatic idx, 3)) (hcw : mj_cwS M idx y ws rm na) (h0 : rm.cells = 0 ∧ rm.slots = 0) (hk0 : k ≤ M.2.2.2.1.cells ∧ n ≤ M.2.2.2.1.slots) (hM : MC l y ws rm false as w (some (.int x)) w1) (hn : as.length = na) (hst : st = as.reverse ++ rest) (hcat : Nat.ble (rest.map fun v => v.category).sum 8 = true) (kk : GG l cc M b X (pc + 3) L (.int x :: rest) w1 k n) : GG l cc M b X pc L st w k n := G_callS hd hcw h0 hk0 hM hn hst (Nat.le_of_ble_eq_true hcat) kk
theorem G_callSl {x : Int64} (hd : decode cc pc = .ok (.invokestatic idx, 3)) (hcw : mj_cwS M idx y ws rm na) (h0 : rm.cells = 0 ∧ rm.slots = 0) (hk0 : k ≤ M.2.2.2.1.cells ∧ n ≤ M.2.2.2.1.slots) (hM : MC l y ws rm false as w (some (.long x)) w1) (hn : as.length = na) (hst : st = as.reverse ++ rest) (hcat : Nat.ble (rest.map fun v => v.category).sum 8 = true) (kk : GG l cc M b X (pc + 3) L (.long x :: rest) w1 k n) : GG l cc M b X pc L st w k n := G_callS hd hcw h0 hk0 hM hn hst (Nat.le_of_ble_eq_true hcat) kk
theorem G_callSv (hd : decode cc pc = .ok (.invokestatic idx, 3)) (hcw : mj_cwS M idx y ws rm na) (h0 : rm.cells = 0 ∧ rm.slots = 0) (hk0 : k ≤ M.2.2.2.1.cells ∧ n ≤ M.2.2.2.1.slots) (hM : MC l y ws rm false as w none w1) (hn : as.length = na) (hst : st = as.reverse ++ rest) (hcat : Nat.ble (rest.map fun v => v.category).sum 8 = true) (kk : GG l cc M b X (pc + 3) L rest w1 k n) : GG l cc M b X pc L st w k n := G_callS hd hcw h0 hk0 hM hn hst (Nat.le_of_ble_eq_true hcat) kk
theorem G_iret {x : Int32} (hd : decode cc pc = .ok (.ireturn, 1)) (hk : k ≤ M.2.2.2.1.cells ∧ n ≤ M.2.2.2.1.slots) (hX : X = .inl (some (.int x), w)) : GG l cc M b X pc L [.int x] w k n := G_end (v := some (.int x)) hd hX rfl hk
theorem G_lret {x : Int64} (hd : decode cc pc = .ok (.lreturn, 1)) (hk : k ≤ M.2.2.2.1.cells ∧ n ≤ M.2.2.2.1.slots) (hX : X = .inl (some (.long x), w)) : GG l cc M b X pc L [.long x] w k n := G_end (v := some (.long x)) hd hX rfl hk
theorem G_dret {x : UInt64} (hd : decode cc pc = .ok (.dreturn, 1)) (hk : k ≤ M.2.2.2.1.cells ∧ n ≤ M.2.2.2.1.slots) (hX : X = .inl (some (.double x), w)) : GG l cc M b X pc L [.double x] w k n := G_end (v := some (.double x)) hd hX rfl hk
theorem G_vret (hd : decode cc pc = .ok (.return_, 1)) (hk : k ≤ M.2.2.2.1.cells ∧ n ≤ M.2.2.2.1.slots) (hX : X = .inl (none, w)) : GG l cc M b X pc L [] w k n := G_end (v := none) hd hX rfl hk
theorem G_ialdN {o nn j : Nat} {f : Nat → Int32} (hd : decode cc pc = .ok (.iaload, 1)) (hw : w[o]? = some (.inl (.int, (nn, .inl f)))) (hj : j < nn ∧ nn < 2147483648) (kk : GG l cc M b X (pc + 1) L (.int (f j) :: st) w k n) : GG l cc M b X pc L (.int (nI j) :: .ref o :: st) w k n := G_iald hd hw (vp_in_nI hj.1 hj.2) (by rw [nI_clamp (by omega)]; exact kk)
theorem G_caldN {o nn j : Nat} {f : Nat → Int32} (hd : decode cc pc = .ok (.caload, 1)) (hw : w[o]? = some (.inl (.char, (nn, .inl f)))) (hj : j < nn ∧ nn < 2147483648) (kk : GG l cc M b X (pc + 1) L (.int (f j) :: st) w k n) : GG l cc M b X pc L (.int (nI j) :: .ref o :: st) w k n := G_cald hd hw (vp_in_nI hj.1 hj.2) (by rw [nI_clamp (by omega)]; exact kk)
theorem G_iastN {o nn j : Nat} {f : Nat → Int32} {x : Int32} {w' : mj_W} (hd : decode cc pc = .ok (.iastore, 1)) (hw : w[o]? = some (.inl (.int, (nn, .inl f)))) (hj : j < nn ∧ nn < 2147483648) (hw' : w.set o (.inl (.int, (nn, .inl (upd f j x)))) = w') (kk : GG l cc M b X (pc + 1) L st w' k n) : GG l cc M b X pc L (.int x :: .int (nI j) :: .ref o :: st) w k n := G_iast hd hw (vp_in_nI hj.1 hj.2) (by rw [nI_clamp (by omega)]; exact hw') kk
theorem G_castN {o nn j : Nat} {f : Nat → Int32} {x : Int32} {w' : mj_W} (hd : decode cc pc = .ok (.castore, 1)) (hw : w[o]? = some (.inl (.char, (nn, .inl f)))) (hj : j < nn ∧ nn < 2147483648) (hw' : w.set o (.inl (.char, (nn, .inl (upd f j (vp_nar .char x))))) = w') (kk : GG l cc M b X (pc + 1) L st w' k n) : GG l cc M b X pc L (.int x :: .int (nI j) :: .ref o :: st) w k n := G_cast hd hw (vp_in_nI hj.1 hj.2) (by rw [nI_clamp (by omega)]; exact hw') kk
end MJE
end
section
theorem dJxe99ae_isNaN_b9ae7_0 : decode cJxe99ae_isNaN_b9ae7 0 = .ok (.dload_n 0, 1) := by decide +kernel
theorem dJxe99ae_isNaN_b9ae7_1 : decode cJxe99ae_isNaN_b9ae7 1 = .ok (.dload_n 0, 1) := by decide +kernel
theorem dJxe99ae_isNaN_b9ae7_2 : decode cJxe99ae_isNaN_b9ae7 2 = .ok (.dcmp .l, 1) := by decide +kernel
theorem dJxe99ae_isNaN_b9ae7_3 : decode cJxe99ae_isNaN_b9ae7 3 = .ok (.ifCond .eq 7, 3) := by decide +kernel
theorem dJxe99ae_isNaN_b9ae7_6 : decode cJxe99ae_isNaN_b9ae7 6 = .ok (.iconst 1, 1) := by decide +kernel
theorem dJxe99ae_isNaN_b9ae7_7 : decode cJxe99ae_isNaN_b9ae7 7 = .ok (.goto 4, 3) := by decide +kernel
theorem dJxe99ae_isNaN_b9ae7_10 : decode cJxe99ae_isNaN_b9ae7 10 = .ok (.iconst 0, 1) := by decide +kernel
theorem dJxe99ae_isNaN_b9ae7_11 : decode cJxe99ae_isNaN_b9ae7 11 = .ok (.ireturn, 1) := by decide +kernel
set_option maxRecDepth 20000 in
theorem ggJxe99ae_doubleToLongBits_ccdee_Jxe99ae_isNaN_b9ae7 : GoodIn wsJxe99ae_doubleToLongBits_ccdee wsJxe99ae_isNaN_b9ae7 := goodIn_r _ [9] (by decide +kernel) (by decide +kernel)
set_option maxRecDepth 20000 in
theorem gJxe99ae_doubleToLongBits_ccdee_Jxe99ae_isNaN_b9ae7 : GoodIn wsJxe99ae_doubleToLongBits_ccdee (va_wsS RJxe99ae 122 yJxe99ae_isNaN_b9ae7 wsJxe99ae_isNaN_b9ae7) := goodIn_app (goodIn_of _ (by decide +kernel)) ggJxe99ae_doubleToLongBits_ccdee_Jxe99ae_isNaN_b9ae7
theorem dJxe99ae_doubleToLongBits_ccdee_0 : decode cJxe99ae_doubleToLongBits_ccdee 0 = .ok (.dload_n 0, 1) := by decide +kernel
theorem dJxe99ae_doubleToLongBits_ccdee_1 : decode cJxe99ae_doubleToLongBits_ccdee 1 = .ok (.invokestatic 122, 3) := by decide +kernel
theorem dJxe99ae_doubleToLongBits_ccdee_4 : decode cJxe99ae_doubleToLongBits_ccdee 4 = .ok (.ifCond .ne 8, 3) := by decide +kernel
theorem dJxe99ae_doubleToLongBits_ccdee_7 : decode cJxe99ae_doubleToLongBits_ccdee 7 = .ok (.dload_n 0, 1) := by decide +kernel
theorem dJxe99ae_doubleToLongBits_ccdee_8 : decode cJxe99ae_doubleToLongBits_ccdee 8 = .ok (.invokestatic 134, 3) := by decide +kernel
theorem dJxe99ae_doubleToLongBits_ccdee_11 : decode cJxe99ae_doubleToLongBits_ccdee 11 = .ok (.lreturn, 1) := by decide +kernel
theorem dJxe99ae_doubleToLongBits_ccdee_12 : decode cJxe99ae_doubleToLongBits_ccdee 12 = .ok (.ldc2_w 137, 3) := by decide +kernel
theorem dJxe99ae_doubleToLongBits_ccdee_15 : decode cJxe99ae_doubleToLongBits_ccdee 15 = .ok (.lreturn, 1) := by decide +kernel
theorem dJ9_floorMod_7cf53_0 : decode cJ9_floorMod_7cf53 0 = .ok (.iload_n 0, 1) := by decide +kernel
theorem dJ9_floorMod_7cf53_1 : decode cJ9_floorMod_7cf53 1 = .ok (.iload_n 1, 1) := by decide +kernel
theorem dJ9_floorMod_7cf53_2 : decode cJ9_floorMod_7cf53 2 = .ok (.irem, 1) := by decide +kernel
theorem dJ9_floorMod_7cf53_3 : decode cJ9_floorMod_7cf53 3 = .ok (.istore_n 2, 1) := by decide +kernel
theorem dJ9_floorMod_7cf53_4 : decode cJ9_floorMod_7cf53 4 = .ok (.iload_n 0, 1) := by decide +kernel
theorem dJ9_floorMod_7cf53_5 : decode cJ9_floorMod_7cf53 5 = .ok (.iload_n 1, 1) := by decide +kernel
theorem dJ9_floorMod_7cf53_6 : decode cJ9_floorMod_7cf53 6 = .ok (.ixor, 1) := by decide +kernel
theorem dJ9_floorMod_7cf53_7 : decode cJ9_floorMod_7cf53 7 = .ok (.ifCond .ge 11, 3) := by decide +kernel
theorem dJ9_floorMod_7cf53_10 : decode cJ9_floorMod_7cf53 10 = .ok (.iload_n 2, 1) := by decide +kernel
theorem dJ9_floorMod_7cf53_11 : decode cJ9_floorMod_7cf53 11 = .ok (.ifCond .eq 7, 3) := by decide +kernel
theorem dJ9_floorMod_7cf53_14 : decode cJ9_floorMod_7cf53 14 = .ok (.iload_n 2, 1) := by decide +kernel
theorem dJ9_floorMod_7cf53_15 : decode cJ9_floorMod_7cf53 15 = .ok (.iload_n 1, 1) := by decide +kernel
theorem dJ9_floorMod_7cf53_16 : decode cJ9_floorMod_7cf53 16 = .ok (.iadd, 1) := by decide +kernel
theorem dJ9_floorMod_7cf53_17 : decode cJ9_floorMod_7cf53 17 = .ok (.ireturn, 1) := by decide +kernel
theorem dJ9_floorMod_7cf53_18 : decode cJ9_floorMod_7cf53 18 = .ok (.iload_n 2, 1) := by decide +kernel
theorem dJ9_floorMod_7cf53_19 : decode cJ9_floorMod_7cf53 19 = .ok (.ireturn, 1) := by decide +kernel
theorem dJ9_max_7cf53_0 : decode cJ9_max_7cf53 0 = .ok (.iload_n 0, 1) := by decide +kernel
theorem dJ9_max_7cf53_1 : decode cJ9_max_7cf53 1 = .ok (.iload_n 1, 1) := by decide +kernel
theorem dJ9_max_7cf53_2 : decode cJ9_max_7cf53 2 = .ok (.if_icmp .lt 7, 3) := by decide +kernel
theorem dJ9_max_7cf53_5 : decode cJ9_max_7cf53 5 = .ok (.iload_n 0, 1) := by decide +kernel
theorem dJ9_max_7cf53_6 : decode cJ9_max_7cf53 6 = .ok (.goto 4, 3) := by decide +kernel
theorem dJ9_max_7cf53_9 : decode cJ9_max_7cf53 9 = .ok (.iload_n 1, 1) := by decide +kernel
theorem dJ9_max_7cf53_10 : decode cJ9_max_7cf53 10 = .ok (.ireturn, 1) := by decide +kernel
theorem dJ9_min_7cf53_0 : decode cJ9_min_7cf53 0 = .ok (.iload_n 0, 1) := by decide +kernel
theorem dJ9_min_7cf53_1 : decode cJ9_min_7cf53 1 = .ok (.iload_n 1, 1) := by decide +kernel
theorem dJ9_min_7cf53_2 : decode cJ9_min_7cf53 2 = .ok (.if_icmp .gt 7, 3) := by decide +kernel
theorem dJ9_min_7cf53_5 : decode cJ9_min_7cf53 5 = .ok (.iload_n 0, 1) := by decide +kernel
theorem dJ9_min_7cf53_6 : decode cJ9_min_7cf53 6 = .ok (.goto 4, 3) := by decide +kernel
theorem dJ9_min_7cf53_9 : decode cJ9_min_7cf53 9 = .ok (.iload_n 1, 1) := by decide +kernel
theorem dJ9_min_7cf53_10 : decode cJ9_min_7cf53 10 = .ok (.ireturn, 1) := by decide +kernel
abbrev rmJ9_floorMod_7cf53 : Room := { frames := 0, cells := 0, slots := 0, locals := 0 }
abbrev MJ9_floorMod_7cf53 : mj_M := (RJ9, 3, wsJ9_floorMod_7cf53, rmJ9_floorMod_7cf53, false, none)
end
section
set_option maxRecDepth 20000 in
theorem ggX0_init_X0_put : GoodIn wsX0_init wsX0_put := goodIn_r _ [10, 5, 30] (by decide +kernel) (by decide +kernel)
set_option maxRecDepth 20000 in
theorem gX0_init_X0_put : GoodIn wsX0_init (wsV RX0 15 RX0 yX0_put wsX0_put) := goodIn_app (goodIn_of _ (by decide +kernel)) ggX0_init_X0_put
set_option maxRecDepth 20000 in
theorem ggX0_init_X0_plotOf : GoodIn wsX0_init wsX0_plotOf := goodIn_r _ [13] (by decide +kernel) (by decide +kernel)
set_option maxRecDepth 20000 in
theorem gX0_init_X0_plotOf : GoodIn wsX0_init (va_wsS RX0 19 yX0_plotOf wsX0_plotOf) := goodIn_app (goodIn_of _ (by decide +kernel)) ggX0_init_X0_plotOf
set_option maxRecDepth 20000 in
theorem ggX0_init_X0_add : GoodIn wsX0_init wsX0_add := goodIn_r _ [17, 18, 19, 20, 9, 21, 5, 6, 7, 8, 10, 30] (by decide +kernel) (by decide +kernel)
set_option maxRecDepth 20000 in
theorem gX0_init_X0_add : GoodIn wsX0_init (wsV RX0 23 RX0 yX0_add wsX0_add) := goodIn_app (goodIn_of _ (by decide +kernel)) ggX0_init_X0_add
set_option maxRecDepth 20000 in
theorem ggX0_init_X0_letRest : GoodIn wsX0_init wsX0_letRest := goodIn_r _ [25, 26, 27, 28, 9, 29, 6, 7, 8, 10, 5, 30] (by decide +kernel) (by decide +kernel)
set_option maxRecDepth 20000 in
theorem gX0_init_X0_letRest : GoodIn wsX0_init (wsV RX0 26 RX0 yX0_letRest wsX0_letRest) := goodIn_app (goodIn_of _ (by decide +kernel)) ggX0_init_X0_letRest
theorem dX0_init_0 : decode cX0_init 0 = .ok (.aload_n 0, 1) := by decide +kernel
theorem dX0_init_1 : decode cX0_init 1 = .ok (.invokespecial 5, 3) := by decide +kernel
theorem dX0_init_4 : decode cX0_init 4 = .ok (.aload_n 0, 1) := by decide +kernel
theorem dX0_init_5 : decode cX0_init 5 = .ok (.sipush 161, 3) := by decide +kernel
theorem dX0_init_8 : decode cX0_init 8 = .ok (.newarray .int, 2) := by decide +kernel
theorem dX0_init_10 : decode cX0_init 10 = .ok (.putfield 11, 3) := by decide +kernel
theorem dX0_init_13 : decode cX0_init 13 = .ok (.aload_n 0, 1) := by decide +kernel
theorem dX0_init_14 : decode cX0_init 14 = .ok (.iconst 2, 1) := by decide +kernel
theorem dX0_init_15 : decode cX0_init 15 = .ok (.iconst 3, 1) := by decide +kernel
theorem dX0_init_16 : decode cX0_init 16 = .ok (.invokevirtual 15, 3) := by decide +kernel
theorem dX0_init_19 : decode cX0_init 19 = .ok (.aload_n 0, 1) := by decide +kernel
theorem dX0_init_20 : decode cX0_init 20 = .ok (.iconst 3, 1) := by decide +kernel
theorem dX0_init_21 : decode cX0_init 21 = .ok (.bipush 10, 2) := by decide +kernel
theorem dX0_init_23 : decode cX0_init 23 = .ok (.invokevirtual 15, 3) := by decide +kernel
theorem dX0_init_26 : decode cX0_init 26 = .ok (.aload_n 0, 1) := by decide +kernel
theorem dX0_init_27 : decode cX0_init 27 = .ok (.iconst 4, 1) := by decide +kernel
theorem dX0_init_28 : decode cX0_init 28 = .ok (.bipush 8, 2) := by decide +kernel
theorem dX0_init_30 : decode cX0_init 30 = .ok (.invokevirtual 15, 3) := by decide +kernel
theorem dX0_init_33 : decode cX0_init 33 = .ok (.iconst 0, 1) := by decide +kernel
theorem dX0_init_34 : decode cX0_init 34 = .ok (.istore_n 1, 1) := by decide +kernel
theorem dX0_init_35 : decode cX0_init 35 = .ok (.iload_n 1, 1) := by decide +kernel
theorem dX0_init_36 : decode cX0_init 36 = .ok (.iconst 5, 1) := by decide +kernel
theorem dX0_init_37 : decode cX0_init 37 = .ok (.if_icmp .ge 20, 3) := by decide +kernel
theorem dX0_init_40 : decode cX0_init 40 = .ok (.aload_n 0, 1) := by decide +kernel
theorem dX0_init_41 : decode cX0_init 41 = .ok (.bipush 10, 2) := by decide +kernel
theorem dX0_init_43 : decode cX0_init 43 = .ok (.iload_n 1, 1) := by decide +kernel
theorem dX0_init_44 : decode cX0_init 44 = .ok (.iadd, 1) := by decide +kernel
theorem dX0_init_45 : decode cX0_init 45 = .ok (.sipush 300, 3) := by decide +kernel
theorem dX0_init_48 : decode cX0_init 48 = .ok (.invokevirtual 15, 3) := by decide +kernel
theorem dX0_init_51 : decode cX0_init 51 = .ok (.iinc 1 1, 3) := by decide +kernel
theorem dX0_init_54 : decode cX0_init 54 = .ok (.goto (-19), 3) := by decide +kernel
theorem dX0_init_57 : decode cX0_init 57 = .ok (.aload_n 0, 1) := by decide +kernel
theorem dX0_init_58 : decode cX0_init 58 = .ok (.bipush 9, 2) := by decide +kernel
theorem dX0_init_60 : decode cX0_init 60 = .ok (.iconst 1, 1) := by decide +kernel
theorem dX0_init_61 : decode cX0_init 61 = .ok (.invokevirtual 15, 3) := by decide +kernel
theorem dX0_init_64 : decode cX0_init 64 = .ok (.iconst 0, 1) := by decide +kernel
theorem dX0_init_65 : decode cX0_init 65 = .ok (.istore_n 1, 1) := by decide +kernel
theorem dX0_init_66 : decode cX0_init 66 = .ok (.iload_n 1, 1) := by decide +kernel
theorem dX0_init_67 : decode cX0_init 67 = .ok (.iconst 4, 1) := by decide +kernel
theorem dX0_init_68 : decode cX0_init 68 = .ok (.if_icmp .ge 81, 3) := by decide +kernel
theorem dX0_init_71 : decode cX0_init 71 = .ok (.aload_n 0, 1) := by decide +kernel
theorem dX0_init_72 : decode cX0_init 72 = .ok (.bipush 45, 2) := by decide +kernel
theorem dX0_init_74 : decode cX0_init 74 = .ok (.iload_n 1, 1) := by decide +kernel
theorem dX0_init_75 : decode cX0_init 75 = .ok (.iadd, 1) := by decide +kernel
theorem dX0_init_76 : decode cX0_init 76 = .ok (.sipush 2000, 3) := by decide +kernel
theorem dX0_init_79 : decode cX0_init 79 = .ok (.invokevirtual 15, 3) := by decide +kernel
theorem dX0_init_82 : decode cX0_init 82 = .ok (.aload_n 0, 1) := by decide +kernel
theorem dX0_init_83 : decode cX0_init 83 = .ok (.bipush 49, 2) := by decide +kernel
theorem dX0_init_85 : decode cX0_init 85 = .ok (.iload_n 1, 1) := by decide +kernel
theorem dX0_init_86 : decode cX0_init 86 = .ok (.iadd, 1) := by decide +kernel
theorem dX0_init_87 : decode cX0_init 87 = .ok (.bipush 40, 2) := by decide +kernel
theorem dX0_init_89 : decode cX0_init 89 = .ok (.invokevirtual 15, 3) := by decide +kernel
theorem dX0_init_92 : decode cX0_init 92 = .ok (.aload_n 0, 1) := by decide +kernel
theorem dX0_init_93 : decode cX0_init 93 = .ok (.bipush 53, 2) := by decide +kernel
theorem dX0_init_95 : decode cX0_init 95 = .ok (.iload_n 1, 1) := by decide +kernel
theorem dX0_init_96 : decode cX0_init 96 = .ok (.iadd, 1) := by decide +kernel
theorem dX0_init_97 : decode cX0_init 97 = .ok (.bipush 12, 2) := by decide +kernel
theorem dX0_init_99 : decode cX0_init 99 = .ok (.invokevirtual 15, 3) := by decide +kernel
theorem dX0_init_102 : decode cX0_init 102 = .ok (.iconst 0, 1) := by decide +kernel
theorem dX0_init_103 : decode cX0_init 103 = .ok (.istore_n 2, 1) := by decide +kernel
theorem dX0_init_104 : decode cX0_init 104 = .ok (.iload_n 2, 1) := by decide +kernel
theorem dX0_init_105 : decode cX0_init 105 = .ok (.iconst 4, 1) := by decide +kernel
theorem dX0_init_106 : decode cX0_init 106 = .ok (.if_icmp .ge 37, 3) := by decide +kernel
theorem dX0_init_109 : decode cX0_init 109 = .ok (.iload_n 2, 1) := by decide +kernel
theorem dX0_init_110 : decode cX0_init 110 = .ok (.iload_n 1, 1) := by decide +kernel
theorem dX0_init_111 : decode cX0_init 111 = .ok (.if_icmp .eq 26, 3) := by decide +kernel
theorem dX0_init_114 : decode cX0_init 114 = .ok (.aload_n 0, 1) := by decide +kernel
theorem dX0_init_115 : decode cX0_init 115 = .ok (.bipush 57, 2) := by decide +kernel
theorem dX0_init_117 : decode cX0_init 117 = .ok (.iload_n 2, 1) := by decide +kernel
theorem dX0_init_118 : decode cX0_init 118 = .ok (.iload_n 1, 1) := by decide +kernel
theorem dX0_init_119 : decode cX0_init 119 = .ok (.invokestatic 19, 3) := by decide +kernel
theorem dX0_init_122 : decode cX0_init 122 = .ok (.iadd, 1) := by decide +kernel
theorem dX0_init_123 : decode cX0_init 123 = .ok (.iconst 3, 1) := by decide +kernel
theorem dX0_init_124 : decode cX0_init 124 = .ok (.invokevirtual 15, 3) := by decide +kernel
theorem dX0_init_127 : decode cX0_init 127 = .ok (.aload_n 0, 1) := by decide +kernel
theorem dX0_init_128 : decode cX0_init 128 = .ok (.bipush 53, 2) := by decide +kernel
theorem dX0_init_130 : decode cX0_init 130 = .ok (.iload_n 1, 1) := by decide +kernel
theorem dX0_init_131 : decode cX0_init 131 = .ok (.iadd, 1) := by decide +kernel
theorem dX0_init_132 : decode cX0_init 132 = .ok (.bipush (-3), 2) := by decide +kernel
theorem dX0_init_134 : decode cX0_init 134 = .ok (.invokevirtual 23, 3) := by decide +kernel
theorem dX0_init_137 : decode cX0_init 137 = .ok (.iinc 2 1, 3) := by decide +kernel
theorem dX0_init_140 : decode cX0_init 140 = .ok (.goto (-36), 3) := by decide +kernel
theorem dX0_init_143 : decode cX0_init 143 = .ok (.iinc 1 1, 3) := by decide +kernel
theorem dX0_init_146 : decode cX0_init 146 = .ok (.goto (-80), 3) := by decide +kernel
theorem dX0_init_149 : decode cX0_init 149 = .ok (.iconst 0, 1) := by decide +kernel
theorem dX0_init_150 : decode cX0_init 150 = .ok (.istore_n 1, 1) := by decide +kernel
theorem dX0_init_151 : decode cX0_init 151 = .ok (.iload_n 1, 1) := by decide +kernel
theorem dX0_init_152 : decode cX0_init 152 = .ok (.bipush 6, 2) := by decide +kernel
theorem dX0_init_154 : decode cX0_init 154 = .ok (.if_icmp .ge 29, 3) := by decide +kernel
theorem dX0_init_157 : decode cX0_init 157 = .ok (.aload_n 0, 1) := by decide +kernel
theorem dX0_init_158 : decode cX0_init 158 = .ok (.sipush 137, 3) := by decide +kernel
theorem dX0_init_161 : decode cX0_init 161 = .ok (.iload_n 1, 1) := by decide +kernel
theorem dX0_init_162 : decode cX0_init 162 = .ok (.iadd, 1) := by decide +kernel
theorem dX0_init_163 : decode cX0_init 163 = .ok (.bipush 10, 2) := by decide +kernel
theorem dX0_init_165 : decode cX0_init 165 = .ok (.iconst 2, 1) := by decide +kernel
theorem dX0_init_166 : decode cX0_init 166 = .ok (.iload_n 1, 1) := by decide +kernel
theorem dX0_init_167 : decode cX0_init 167 = .ok (.imul, 1) := by decide +kernel
theorem dX0_init_168 : decode cX0_init 168 = .ok (.iadd, 1) := by decide +kernel
theorem dX0_init_169 : decode cX0_init 169 = .ok (.invokevirtual 15, 3) := by decide +kernel
theorem dX0_init_172 : decode cX0_init 172 = .ok (.aload_n 0, 1) := by decide +kernel
theorem dX0_init_173 : decode cX0_init 173 = .ok (.iload_n 1, 1) := by decide +kernel
theorem dX0_init_174 : decode cX0_init 174 = .ok (.invokevirtual 26, 3) := by decide +kernel
theorem dX0_init_177 : decode cX0_init 177 = .ok (.iinc 1 1, 3) := by decide +kernel
theorem dX0_init_180 : decode cX0_init 180 = .ok (.goto (-29), 3) := by decide +kernel
theorem dX0_init_183 : decode cX0_init 183 = .ok (.return_, 1) := by decide +kernel
theorem dX0_at_0 : decode cX0_at 0 = .ok (.iload_n 1, 1) := by decide +kernel
theorem dX0_at_1 : decode cX0_at 1 = .ok (.ifCond .lt 21, 3) := by decide +kernel
theorem dX0_at_4 : decode cX0_at 4 = .ok (.iload_n 1, 1) := by decide +kernel
theorem dX0_at_5 : decode cX0_at 5 = .ok (.aload_n 0, 1) := by decide +kernel
theorem dX0_at_6 : decode cX0_at 6 = .ok (.getfield 11, 3) := by decide +kernel
theorem dX0_at_9 : decode cX0_at 9 = .ok (.arraylength, 1) := by decide +kernel
theorem dX0_at_10 : decode cX0_at 10 = .ok (.if_icmp .ge 12, 3) := by decide +kernel
theorem dX0_at_13 : decode cX0_at 13 = .ok (.aload_n 0, 1) := by decide +kernel
theorem dX0_at_14 : decode cX0_at 14 = .ok (.getfield 11, 3) := by decide +kernel
theorem dX0_at_17 : decode cX0_at 17 = .ok (.iload_n 1, 1) := by decide +kernel
theorem dX0_at_18 : decode cX0_at 18 = .ok (.iaload, 1) := by decide +kernel
theorem dX0_at_19 : decode cX0_at 19 = .ok (.goto 4, 3) := by decide +kernel
theorem dX0_at_22 : decode cX0_at 22 = .ok (.iconst 0, 1) := by decide +kernel
theorem dX0_at_23 : decode cX0_at 23 = .ok (.ireturn, 1) := by decide +kernel
theorem dX0_put_0 : decode cX0_put 0 = .ok (.iload_n 1, 1) := by decide +kernel
theorem dX0_put_1 : decode cX0_put 1 = .ok (.ifCond .lt 19, 3) := by decide +kernel
theorem dX0_put_4 : decode cX0_put 4 = .ok (.iload_n 1, 1) := by decide +kernel
theorem dX0_put_5 : decode cX0_put 5 = .ok (.aload_n 0, 1) := by decide +kernel
theorem dX0_put_6 : decode cX0_put 6 = .ok (.getfield 11, 3) := by decide +kernel
theorem dX0_put_9 : decode cX0_put 9 = .ok (.arraylength, 1) := by decide +kernel
theorem dX0_put_10 : decode cX0_put 10 = .ok (.if_icmp .ge 10, 3) := by decide +kernel
theorem dX0_put_13 : decode cX0_put 13 = .ok (.aload_n 0, 1) := by decide +kernel
theorem dX0_put_14 : decode cX0_put 14 = .ok (.getfield 11, 3) := by decide +kernel
theorem dX0_put_17 : decode cX0_put 17 = .ok (.iload_n 1, 1) := by decide +kernel
theorem dX0_put_18 : decode cX0_put 18 = .ok (.iload_n 2, 1) := by decide +kernel
theorem dX0_put_19 : decode cX0_put 19 = .ok (.iastore, 1) := by decide +kernel
theorem dX0_put_20 : decode cX0_put 20 = .ok (.return_, 1) := by decide +kernel
set_option maxRecDepth 20000 in
theorem ggX0_add_X0_at : GoodIn wsX0_add wsX0_at := goodIn_r _ [5, 6, 11] (by decide +kernel) (by decide +kernel)
set_option maxRecDepth 20000 in
theorem gX0_add_X0_at : GoodIn wsX0_add (wsV RX0 30 RX0 yX0_at wsX0_at) := goodIn_app (goodIn_of _ (by decide +kernel)) ggX0_add_X0_at
set_option maxRecDepth 20000 in
theorem ggX0_add_X0_put : GoodIn wsX0_add wsX0_put := goodIn_r _ [10, 6, 11] (by decide +kernel) (by decide +kernel)
set_option maxRecDepth 20000 in
theorem gX0_add_X0_put : GoodIn wsX0_add (wsV RX0 15 RX0 yX0_put wsX0_put) := goodIn_app (goodIn_of _ (by decide +kernel)) ggX0_add_X0_put
theorem dX0_add_0 : decode cX0_add 0 = .ok (.aload_n 0, 1) := by decide +kernel
theorem dX0_add_1 : decode cX0_add 1 = .ok (.iload_n 1, 1) := by decide +kernel
theorem dX0_add_2 : decode cX0_add 2 = .ok (.aload_n 0, 1) := by decide +kernel
theorem dX0_add_3 : decode cX0_add 3 = .ok (.iload_n 1, 1) := by decide +kernel
theorem dX0_add_4 : decode cX0_add 4 = .ok (.invokevirtual 30, 3) := by decide +kernel
theorem dX0_add_7 : decode cX0_add 7 = .ok (.iload_n 2, 1) := by decide +kernel
theorem dX0_add_8 : decode cX0_add 8 = .ok (.iadd, 1) := by decide +kernel
theorem dX0_add_9 : decode cX0_add 9 = .ok (.invokevirtual 15, 3) := by decide +kernel
theorem dX0_add_12 : decode cX0_add 12 = .ok (.return_, 1) := by decide +kernel
set_option maxRecDepth 20000 in
theorem ggX0_swap_X0_at : GoodIn wsX0_swap wsX0_at := goodIn_r _ [5, 6, 11] (by decide +kernel) (by decide +kernel)
set_option maxRecDepth 20000 in
theorem gX0_swap_X0_at : GoodIn wsX0_swap (wsV RX0 30 RX0 yX0_at wsX0_at) := goodIn_app (goodIn_of _ (by decide +kernel)) ggX0_swap_X0_at
set_option maxRecDepth 20000 in
theorem ggX0_swap_X0_put : GoodIn wsX0_swap wsX0_put := goodIn_r _ [10, 6, 11] (by decide +kernel) (by decide +kernel)
set_option maxRecDepth 20000 in
theorem gX0_swap_X0_put : GoodIn wsX0_swap (wsV RX0 15 RX0 yX0_put wsX0_put) := goodIn_app (goodIn_of _ (by decide +kernel)) ggX0_swap_X0_put
theorem dX0_swap_0 : decode cX0_swap 0 = .ok (.aload_n 0, 1) := by decide +kernel
theorem dX0_swap_1 : decode cX0_swap 1 = .ok (.iload_n 1, 1) := by decide +kernel
theorem dX0_swap_2 : decode cX0_swap 2 = .ok (.invokevirtual 30, 3) := by decide +kernel
theorem dX0_swap_5 : decode cX0_swap 5 = .ok (.istore_n 3, 1) := by decide +kernel
theorem dX0_swap_6 : decode cX0_swap 6 = .ok (.aload_n 0, 1) := by decide +kernel
theorem dX0_swap_7 : decode cX0_swap 7 = .ok (.iload_n 1, 1) := by decide +kernel
theorem dX0_swap_8 : decode cX0_swap 8 = .ok (.iload_n 2, 1) := by decide +kernel
theorem dX0_swap_9 : decode cX0_swap 9 = .ok (.invokevirtual 15, 3) := by decide +kernel
theorem dX0_swap_12 : decode cX0_swap 12 = .ok (.iload_n 3, 1) := by decide +kernel
theorem dX0_swap_13 : decode cX0_swap 13 = .ok (.ireturn, 1) := by decide +kernel
set_option maxRecDepth 20000 in
theorem ggX0_sum_X0_at : GoodIn wsX0_sum wsX0_at := goodIn_r _ [5, 6, 7] (by decide +kernel) (by decide +kernel)
set_option maxRecDepth 20000 in
theorem gX0_sum_X0_at : GoodIn wsX0_sum (wsV RX0 30 RX0 yX0_at wsX0_at) := goodIn_app (goodIn_of _ (by decide +kernel)) ggX0_sum_X0_at
theorem dX0_sum_0 : decode cX0_sum 0 = .ok (.iconst 0, 1) := by decide +kernel
theorem dX0_sum_1 : decode cX0_sum 1 = .ok (.istore_n 3, 1) := by decide +kernel
theorem dX0_sum_2 : decode cX0_sum 2 = .ok (.iconst 0, 1) := by decide +kernel
theorem dX0_sum_3 : decode cX0_sum 3 = .ok (.istore 4, 2) := by decide +kernel
theorem dX0_sum_5 : decode cX0_sum 5 = .ok (.iload 4, 2) := by decide +kernel
theorem dX0_sum_7 : decode cX0_sum 7 = .ok (.iload_n 2, 1) := by decide +kernel
theorem dX0_sum_8 : decode cX0_sum 8 = .ok (.if_icmp .ge 20, 3) := by decide +kernel
theorem dX0_sum_11 : decode cX0_sum 11 = .ok (.iload_n 3, 1) := by decide +kernel
theorem dX0_sum_12 : decode cX0_sum 12 = .ok (.aload_n 0, 1) := by decide +kernel
theorem dX0_sum_13 : decode cX0_sum 13 = .ok (.iload_n 1, 1) := by decide +kernel
theorem dX0_sum_14 : decode cX0_sum 14 = .ok (.iload 4, 2) := by decide +kernel
theorem dX0_sum_16 : decode cX0_sum 16 = .ok (.iadd, 1) := by decide +kernel
theorem dX0_sum_17 : decode cX0_sum 17 = .ok (.invokevirtual 30, 3) := by decide +kernel
theorem dX0_sum_20 : decode cX0_sum 20 = .ok (.iadd, 1) := by decide +kernel
theorem dX0_sum_21 : decode cX0_sum 21 = .ok (.istore_n 3, 1) := by decide +kernel
theorem dX0_sum_22 : decode cX0_sum 22 = .ok (.iinc 4 1, 3) := by decide +kernel
theorem dX0_sum_25 : decode cX0_sum 25 = .ok (.goto (-20), 3) := by decide +kernel
theorem dX0_sum_28 : decode cX0_sum 28 = .ok (.iload_n 3, 1) := by decide +kernel
theorem dX0_sum_29 : decode cX0_sum 29 = .ok (.ireturn, 1) := by decide +kernel
set_option maxRecDepth 20000 in
theorem ggX0_copyFrom_X0_at : GoodIn wsX0_copyFrom wsX0_at := goodIn_r _ [5, 6, 11] (by decide +kernel) (by decide +kernel)
set_option maxRecDepth 20000 in
theorem gX0_copyFrom_X0_at : GoodIn wsX0_copyFrom (wsV RX0 30 RX0 yX0_at wsX0_at) := goodIn_app (goodIn_of _ (by decide +kernel)) ggX0_copyFrom_X0_at
set_option maxRecDepth 20000 in
theorem ggX0_copyFrom_X0_put : GoodIn wsX0_copyFrom wsX0_put := goodIn_r _ [10, 6, 11] (by decide +kernel) (by decide +kernel)
set_option maxRecDepth 20000 in
theorem gX0_copyFrom_X0_put : GoodIn wsX0_copyFrom (wsV RX0 15 RX0 yX0_put wsX0_put) := goodIn_app (goodIn_of _ (by decide +kernel)) ggX0_copyFrom_X0_put
theorem dX0_copyFrom_0 : decode cX0_copyFrom 0 = .ok (.iconst 0, 1) := by decide +kernel
theorem dX0_copyFrom_1 : decode cX0_copyFrom 1 = .ok (.istore_n 2, 1) := by decide +kernel
theorem dX0_copyFrom_2 : decode cX0_copyFrom 2 = .ok (.iload_n 2, 1) := by decide +kernel
theorem dX0_copyFrom_3 : decode cX0_copyFrom 3 = .ok (.sipush 161, 3) := by decide +kernel
theorem dX0_copyFrom_6 : decode cX0_copyFrom 6 = .ok (.if_icmp .ge 19, 3) := by decide +kernel
theorem dX0_copyFrom_9 : decode cX0_copyFrom 9 = .ok (.aload_n 0, 1) := by decide +kernel
theorem dX0_copyFrom_10 : decode cX0_copyFrom 10 = .ok (.iload_n 2, 1) := by decide +kernel
theorem dX0_copyFrom_11 : decode cX0_copyFrom 11 = .ok (.aload_n 1, 1) := by decide +kernel
theorem dX0_copyFrom_12 : decode cX0_copyFrom 12 = .ok (.iload_n 2, 1) := by decide +kernel
theorem dX0_copyFrom_13 : decode cX0_copyFrom 13 = .ok (.invokevirtual 30, 3) := by decide +kernel
theorem dX0_copyFrom_16 : decode cX0_copyFrom 16 = .ok (.invokevirtual 15, 3) := by decide +kernel
theorem dX0_copyFrom_19 : decode cX0_copyFrom 19 = .ok (.iinc 2 1, 3) := by decide +kernel
theorem dX0_copyFrom_22 : decode cX0_copyFrom 22 = .ok (.goto (-20), 3) := by decide +kernel
theorem dX0_copyFrom_25 : decode cX0_copyFrom 25 = .ok (.return_, 1) := by decide +kernel
theorem dX0_plotOf_0 : decode cX0_plotOf 0 = .ok (.iload_n 0, 1) := by decide +kernel
theorem dX0_plotOf_1 : decode cX0_plotOf 1 = .ok (.iconst 4, 1) := by decide +kernel
theorem dX0_plotOf_2 : decode cX0_plotOf 2 = .ok (.imul, 1) := by decide +kernel
theorem dX0_plotOf_3 : decode cX0_plotOf 3 = .ok (.iload_n 1, 1) := by decide +kernel
theorem dX0_plotOf_4 : decode cX0_plotOf 4 = .ok (.iadd, 1) := by decide +kernel
theorem dX0_plotOf_5 : decode cX0_plotOf 5 = .ok (.ireturn, 1) := by decide +kernel
set_option maxRecDepth 20000 in
theorem ggX0_sharesPlace_X0_plotOf : GoodIn wsX0_sharesPlace wsX0_plotOf := goodIn_r _ [4] (by decide +kernel) (by decide +kernel)
set_option maxRecDepth 20000 in
theorem gX0_sharesPlace_X0_plotOf : GoodIn wsX0_sharesPlace (va_wsS RX0 19 yX0_plotOf wsX0_plotOf) := goodIn_app (goodIn_of _ (by decide +kernel)) ggX0_sharesPlace_X0_plotOf
theorem dX0_sharesPlace_0 : decode cX0_sharesPlace 0 = .ok (.iload_n 0, 1) := by decide +kernel
theorem dX0_sharesPlace_1 : decode cX0_sharesPlace 1 = .ok (.iconst (-1), 1) := by decide +kernel
theorem dX0_sharesPlace_2 : decode cX0_sharesPlace 2 = .ok (.if_icmp .ne 10, 3) := by decide +kernel
theorem dX0_sharesPlace_5 : decode cX0_sharesPlace 5 = .ok (.bipush 53, 2) := by decide +kernel
theorem dX0_sharesPlace_7 : decode cX0_sharesPlace 7 = .ok (.iload_n 1, 1) := by decide +kernel
theorem dX0_sharesPlace_8 : decode cX0_sharesPlace 8 = .ok (.iadd, 1) := by decide +kernel
theorem dX0_sharesPlace_9 : decode cX0_sharesPlace 9 = .ok (.goto 11, 3) := by decide +kernel
theorem dX0_sharesPlace_12 : decode cX0_sharesPlace 12 = .ok (.bipush 57, 2) := by decide +kernel
theorem dX0_sharesPlace_14 : decode cX0_sharesPlace 14 = .ok (.iload_n 0, 1) := by decide +kernel
theorem dX0_sharesPlace_15 : decode cX0_sharesPlace 15 = .ok (.iload_n 1, 1) := by decide +kernel
theorem dX0_sharesPlace_16 : decode cX0_sharesPlace 16 = .ok (.invokestatic 19, 3) := by decide +kernel
theorem dX0_sharesPlace_19 : decode cX0_sharesPlace 19 = .ok (.iadd, 1) := by decide +kernel
theorem dX0_sharesPlace_20 : decode cX0_sharesPlace 20 = .ok (.ireturn, 1) := by decide +kernel
set_option maxRecDepth 20000 in
theorem ggX0_cuttersAt_X0_at : GoodIn wsX0_cuttersAt wsX0_at := goodIn_r _ [5, 6, 7] (by decide +kernel) (by decide +kernel)
set_option maxRecDepth 20000 in
theorem gX0_cuttersAt_X0_at : GoodIn wsX0_cuttersAt (wsV RX0 30 RX0 yX0_at wsX0_at) := goodIn_app (goodIn_of _ (by decide +kernel)) ggX0_cuttersAt_X0_at
theorem dX0_cuttersAt_0 : decode cX0_cuttersAt 0 = .ok (.iconst 0, 1) := by decide +kernel
theorem dX0_cuttersAt_1 : decode cX0_cuttersAt 1 = .ok (.istore_n 3, 1) := by decide +kernel
theorem dX0_cuttersAt_2 : decode cX0_cuttersAt 2 = .ok (.iconst 0, 1) := by decide +kernel
theorem dX0_cuttersAt_3 : decode cX0_cuttersAt 3 = .ok (.istore 4, 2) := by decide +kernel
theorem dX0_cuttersAt_5 : decode cX0_cuttersAt 5 = .ok (.iload 4, 2) := by decide +kernel
theorem dX0_cuttersAt_7 : decode cX0_cuttersAt 7 = .ok (.bipush 6, 2) := by decide +kernel
theorem dX0_cuttersAt_9 : decode cX0_cuttersAt 9 = .ok (.if_icmp .ge 40, 3) := by decide +kernel
theorem dX0_cuttersAt_12 : decode cX0_cuttersAt 12 = .ok (.aload_n 0, 1) := by decide +kernel
theorem dX0_cuttersAt_13 : decode cX0_cuttersAt 13 = .ok (.sipush 143, 3) := by decide +kernel
theorem dX0_cuttersAt_16 : decode cX0_cuttersAt 16 = .ok (.iload 4, 2) := by decide +kernel
theorem dX0_cuttersAt_18 : decode cX0_cuttersAt 18 = .ok (.iadd, 1) := by decide +kernel
theorem dX0_cuttersAt_19 : decode cX0_cuttersAt 19 = .ok (.invokevirtual 30, 3) := by decide +kernel
theorem dX0_cuttersAt_22 : decode cX0_cuttersAt 22 = .ok (.iload_n 1, 1) := by decide +kernel
theorem dX0_cuttersAt_23 : decode cX0_cuttersAt 23 = .ok (.if_icmp .ne 20, 3) := by decide +kernel
theorem dX0_cuttersAt_26 : decode cX0_cuttersAt 26 = .ok (.aload_n 0, 1) := by decide +kernel
theorem dX0_cuttersAt_27 : decode cX0_cuttersAt 27 = .ok (.sipush 149, 3) := by decide +kernel
theorem dX0_cuttersAt_30 : decode cX0_cuttersAt 30 = .ok (.iload 4, 2) := by decide +kernel
theorem dX0_cuttersAt_32 : decode cX0_cuttersAt 32 = .ok (.iadd, 1) := by decide +kernel
theorem dX0_cuttersAt_33 : decode cX0_cuttersAt 33 = .ok (.invokevirtual 30, 3) := by decide +kernel
theorem dX0_cuttersAt_36 : decode cX0_cuttersAt 36 = .ok (.iload_n 2, 1) := by decide +kernel
theorem dX0_cuttersAt_37 : decode cX0_cuttersAt 37 = .ok (.if_icmp .ne 6, 3) := by decide +kernel
theorem dX0_cuttersAt_40 : decode cX0_cuttersAt 40 = .ok (.iinc 3 1, 3) := by decide +kernel
theorem dX0_cuttersAt_43 : decode cX0_cuttersAt 43 = .ok (.iinc 4 1, 3) := by decide +kernel
theorem dX0_cuttersAt_46 : decode cX0_cuttersAt 46 = .ok (.goto (-41), 3) := by decide +kernel
theorem dX0_cuttersAt_49 : decode cX0_cuttersAt 49 = .ok (.iload_n 3, 1) := by decide +kernel
theorem dX0_cuttersAt_50 : decode cX0_cuttersAt 50 = .ok (.ireturn, 1) := by decide +kernel
set_option maxRecDepth 20000 in
theorem ggX0_cuttersOnBank_X0_cuttersAt : GoodIn wsX0_cuttersOnBank wsX0_cuttersAt := goodIn_r _ [5, 6, 7, 8, 4, 9, 10, 11] (by decide +kernel) (by decide +kernel)
set_option maxRecDepth 20000 in
theorem gX0_cuttersOnBank_X0_cuttersAt : GoodIn wsX0_cuttersOnBank (wsV RX0 34 RX0 yX0_cuttersAt wsX0_cuttersAt) := goodIn_app (goodIn_of _ (by decide +kernel)) ggX0_cuttersOnBank_X0_cuttersAt
theorem dX0_cuttersOnBank_0 : decode cX0_cuttersOnBank 0 = .ok (.iconst 0, 1) := by decide +kernel
theorem dX0_cuttersOnBank_1 : decode cX0_cuttersOnBank 1 = .ok (.istore_n 2, 1) := by decide +kernel
theorem dX0_cuttersOnBank_2 : decode cX0_cuttersOnBank 2 = .ok (.iconst 0, 1) := by decide +kernel
theorem dX0_cuttersOnBank_3 : decode cX0_cuttersOnBank 3 = .ok (.istore_n 3, 1) := by decide +kernel
theorem dX0_cuttersOnBank_4 : decode cX0_cuttersOnBank 4 = .ok (.iload_n 3, 1) := by decide +kernel
theorem dX0_cuttersOnBank_5 : decode cX0_cuttersOnBank 5 = .ok (.iconst 5, 1) := by decide +kernel
theorem dX0_cuttersOnBank_6 : decode cX0_cuttersOnBank 6 = .ok (.if_icmp .ge 18, 3) := by decide +kernel
theorem dX0_cuttersOnBank_9 : decode cX0_cuttersOnBank 9 = .ok (.iload_n 2, 1) := by decide +kernel
theorem dX0_cuttersOnBank_10 : decode cX0_cuttersOnBank 10 = .ok (.aload_n 0, 1) := by decide +kernel
theorem dX0_cuttersOnBank_11 : decode cX0_cuttersOnBank 11 = .ok (.iload_n 3, 1) := by decide +kernel
theorem dX0_cuttersOnBank_12 : decode cX0_cuttersOnBank 12 = .ok (.iload_n 1, 1) := by decide +kernel
theorem dX0_cuttersOnBank_13 : decode cX0_cuttersOnBank 13 = .ok (.invokevirtual 34, 3) := by decide +kernel
theorem dX0_cuttersOnBank_16 : decode cX0_cuttersOnBank 16 = .ok (.iadd, 1) := by decide +kernel
theorem dX0_cuttersOnBank_17 : decode cX0_cuttersOnBank 17 = .ok (.istore_n 2, 1) := by decide +kernel
theorem dX0_cuttersOnBank_18 : decode cX0_cuttersOnBank 18 = .ok (.iinc 3 1, 3) := by decide +kernel
theorem dX0_cuttersOnBank_21 : decode cX0_cuttersOnBank 21 = .ok (.goto (-17), 3) := by decide +kernel
theorem dX0_cuttersOnBank_24 : decode cX0_cuttersOnBank 24 = .ok (.iload_n 2, 1) := by decide +kernel
theorem dX0_cuttersOnBank_25 : decode cX0_cuttersOnBank 25 = .ok (.ireturn, 1) := by decide +kernel
set_option maxRecDepth 20000 in
theorem ggX0_cuttersAtWork_X0_cuttersOnBank : GoodIn wsX0_cuttersAtWork wsX0_cuttersOnBank := goodIn_r _ [5, 6, 7, 8, 4, 9, 10, 11, 12, 13, 14, 15] (by decide +kernel) (by decide +kernel)
set_option maxRecDepth 20000 in
theorem gX0_cuttersAtWork_X0_cuttersOnBank : GoodIn wsX0_cuttersAtWork (wsV RX0 37 RX0 yX0_cuttersOnBank wsX0_cuttersOnBank) := goodIn_app (goodIn_of _ (by decide +kernel)) ggX0_cuttersAtWork_X0_cuttersOnBank
theorem dX0_cuttersAtWork_0 : decode cX0_cuttersAtWork 0 = .ok (.iconst 0, 1) := by decide +kernel
theorem dX0_cuttersAtWork_1 : decode cX0_cuttersAtWork 1 = .ok (.istore_n 1, 1) := by decide +kernel
theorem dX0_cuttersAtWork_2 : decode cX0_cuttersAtWork 2 = .ok (.iconst 0, 1) := by decide +kernel
theorem dX0_cuttersAtWork_3 : decode cX0_cuttersAtWork 3 = .ok (.istore_n 2, 1) := by decide +kernel
theorem dX0_cuttersAtWork_4 : decode cX0_cuttersAtWork 4 = .ok (.iload_n 2, 1) := by decide +kernel
theorem dX0_cuttersAtWork_5 : decode cX0_cuttersAtWork 5 = .ok (.iconst 4, 1) := by decide +kernel
theorem dX0_cuttersAtWork_6 : decode cX0_cuttersAtWork 6 = .ok (.if_icmp .ge 17, 3) := by decide +kernel
theorem dX0_cuttersAtWork_9 : decode cX0_cuttersAtWork 9 = .ok (.iload_n 1, 1) := by decide +kernel
theorem dX0_cuttersAtWork_10 : decode cX0_cuttersAtWork 10 = .ok (.aload_n 0, 1) := by decide +kernel
theorem dX0_cuttersAtWork_11 : decode cX0_cuttersAtWork 11 = .ok (.iload_n 2, 1) := by decide +kernel
theorem dX0_cuttersAtWork_12 : decode cX0_cuttersAtWork 12 = .ok (.invokevirtual 37, 3) := by decide +kernel
theorem dX0_cuttersAtWork_15 : decode cX0_cuttersAtWork 15 = .ok (.iadd, 1) := by decide +kernel
theorem dX0_cuttersAtWork_16 : decode cX0_cuttersAtWork 16 = .ok (.istore_n 1, 1) := by decide +kernel
theorem dX0_cuttersAtWork_17 : decode cX0_cuttersAtWork 17 = .ok (.iinc 2 1, 3) := by decide +kernel
theorem dX0_cuttersAtWork_20 : decode cX0_cuttersAtWork 20 = .ok (.goto (-16), 3) := by decide +kernel
theorem dX0_cuttersAtWork_23 : decode cX0_cuttersAtWork 23 = .ok (.iload_n 1, 1) := by decide +kernel
theorem dX0_cuttersAtWork_24 : decode cX0_cuttersAtWork 24 = .ok (.ireturn, 1) := by decide +kernel
set_option maxRecDepth 20000 in
theorem ggX0_reasonAgainst_X0_plotOf : GoodIn wsX0_reasonAgainst wsX0_plotOf := goodIn_r _ [4] (by decide +kernel) (by decide +kernel)
set_option maxRecDepth 20000 in
theorem gX0_reasonAgainst_X0_plotOf : GoodIn wsX0_reasonAgainst (va_wsS RX0 19 yX0_plotOf wsX0_plotOf) := goodIn_app (goodIn_of _ (by decide +kernel)) ggX0_reasonAgainst_X0_plotOf
set_option maxRecDepth 20000 in
theorem ggX0_reasonAgainst_X0_at : GoodIn wsX0_reasonAgainst wsX0_at := goodIn_r _ [8, 9, 14] (by decide +kernel) (by decide +kernel)
set_option maxRecDepth 20000 in
theorem gX0_reasonAgainst_X0_at : GoodIn wsX0_reasonAgainst (wsV RX0 30 RX0 yX0_at wsX0_at) := goodIn_app (goodIn_of _ (by decide +kernel)) ggX0_reasonAgainst_X0_at
set_option maxRecDepth 20000 in
theorem ggX0_reasonAgainst_X0_cuttersAt : GoodIn wsX0_reasonAgainst wsX0_cuttersAt := goodIn_r _ [13, 5, 6, 7, 3, 8, 9, 14] (by decide +kernel) (by decide +kernel)
set_option maxRecDepth 20000 in
theorem gX0_reasonAgainst_X0_cuttersAt : GoodIn wsX0_reasonAgainst (wsV RX0 34 RX0 yX0_cuttersAt wsX0_cuttersAt) := goodIn_app (goodIn_of _ (by decide +kernel)) ggX0_reasonAgainst_X0_cuttersAt
theorem dX0_reasonAgainst_0 : decode cX0_reasonAgainst 0 = .ok (.aload_n 0, 1) := by decide +kernel
theorem dX0_reasonAgainst_1 : decode cX0_reasonAgainst 1 = .ok (.bipush 57, 2) := by decide +kernel
theorem dX0_reasonAgainst_3 : decode cX0_reasonAgainst 3 = .ok (.iload_n 1, 1) := by decide +kernel
theorem dX0_reasonAgainst_4 : decode cX0_reasonAgainst 4 = .ok (.iload_n 2, 1) := by decide +kernel
theorem dX0_reasonAgainst_5 : decode cX0_reasonAgainst 5 = .ok (.invokestatic 19, 3) := by decide +kernel
theorem dX0_reasonAgainst_8 : decode cX0_reasonAgainst 8 = .ok (.iadd, 1) := by decide +kernel
theorem dX0_reasonAgainst_9 : decode cX0_reasonAgainst 9 = .ok (.invokevirtual 30, 3) := by decide +kernel
theorem dX0_reasonAgainst_12 : decode cX0_reasonAgainst 12 = .ok (.istore_n 3, 1) := by decide +kernel
theorem dX0_reasonAgainst_13 : decode cX0_reasonAgainst 13 = .ok (.iload_n 3, 1) := by decide +kernel
theorem dX0_reasonAgainst_14 : decode cX0_reasonAgainst 14 = .ok (.ifCond .ne 5, 3) := by decide +kernel
theorem dX0_reasonAgainst_17 : decode cX0_reasonAgainst 17 = .ok (.iconst 1, 1) := by decide +kernel
theorem dX0_reasonAgainst_18 : decode cX0_reasonAgainst 18 = .ok (.ireturn, 1) := by decide +kernel
theorem dX0_reasonAgainst_19 : decode cX0_reasonAgainst 19 = .ok (.aload_n 0, 1) := by decide +kernel
theorem dX0_reasonAgainst_20 : decode cX0_reasonAgainst 20 = .ok (.iload_n 1, 1) := by decide +kernel
theorem dX0_reasonAgainst_21 : decode cX0_reasonAgainst 21 = .ok (.iload_n 2, 1) := by decide +kernel
theorem dX0_reasonAgainst_22 : decode cX0_reasonAgainst 22 = .ok (.invokevirtual 34, 3) := by decide +kernel
theorem dX0_reasonAgainst_25 : decode cX0_reasonAgainst 25 = .ok (.iload_n 3, 1) := by decide +kernel
theorem dX0_reasonAgainst_26 : decode cX0_reasonAgainst 26 = .ok (.if_icmp .lt 5, 3) := by decide +kernel
theorem dX0_reasonAgainst_29 : decode cX0_reasonAgainst 29 = .ok (.iconst 2, 1) := by decide +kernel
theorem dX0_reasonAgainst_30 : decode cX0_reasonAgainst 30 = .ok (.ireturn, 1) := by decide +kernel
theorem dX0_reasonAgainst_31 : decode cX0_reasonAgainst 31 = .ok (.aload_n 0, 1) := by decide +kernel
theorem dX0_reasonAgainst_32 : decode cX0_reasonAgainst 32 = .ok (.bipush 45, 2) := by decide +kernel
theorem dX0_reasonAgainst_34 : decode cX0_reasonAgainst 34 = .ok (.iload_n 2, 1) := by decide +kernel
theorem dX0_reasonAgainst_35 : decode cX0_reasonAgainst 35 = .ok (.iadd, 1) := by decide +kernel
theorem dX0_reasonAgainst_36 : decode cX0_reasonAgainst 36 = .ok (.invokevirtual 30, 3) := by decide +kernel
theorem dX0_reasonAgainst_39 : decode cX0_reasonAgainst 39 = .ok (.ifCond .ne 5, 3) := by decide +kernel
theorem dX0_reasonAgainst_42 : decode cX0_reasonAgainst 42 = .ok (.iconst 3, 1) := by decide +kernel
theorem dX0_reasonAgainst_43 : decode cX0_reasonAgainst 43 = .ok (.ireturn, 1) := by decide +kernel
theorem dX0_reasonAgainst_44 : decode cX0_reasonAgainst 44 = .ok (.aload_n 0, 1) := by decide +kernel
theorem dX0_reasonAgainst_45 : decode cX0_reasonAgainst 45 = .ok (.iconst 1, 1) := by decide +kernel
theorem dX0_reasonAgainst_46 : decode cX0_reasonAgainst 46 = .ok (.invokevirtual 30, 3) := by decide +kernel
theorem dX0_reasonAgainst_49 : decode cX0_reasonAgainst 49 = .ok (.iconst 1, 1) := by decide +kernel
theorem dX0_reasonAgainst_50 : decode cX0_reasonAgainst 50 = .ok (.if_icmp .ne 7, 3) := by decide +kernel
theorem dX0_reasonAgainst_53 : decode cX0_reasonAgainst 53 = .ok (.iconst 4, 1) := by decide +kernel
theorem dX0_reasonAgainst_54 : decode cX0_reasonAgainst 54 = .ok (.goto 4, 3) := by decide +kernel
theorem dX0_reasonAgainst_57 : decode cX0_reasonAgainst 57 = .ok (.iconst 0, 1) := by decide +kernel
theorem dX0_reasonAgainst_58 : decode cX0_reasonAgainst 58 = .ok (.ireturn, 1) := by decide +kernel
set_option maxRecDepth 20000 in
theorem ggX0_setToWork_X0_put : GoodIn wsX0_setToWork wsX0_put := goodIn_r _ [5, 6, 7] (by decide +kernel) (by decide +kernel)
set_option maxRecDepth 20000 in
theorem gX0_setToWork_X0_put : GoodIn wsX0_setToWork (wsV RX0 15 RX0 yX0_put wsX0_put) := goodIn_app (goodIn_of _ (by decide +kernel)) ggX0_setToWork_X0_put
theorem dX0_setToWork_0 : decode cX0_setToWork 0 = .ok (.aload_n 0, 1) := by decide +kernel
theorem dX0_setToWork_1 : decode cX0_setToWork 1 = .ok (.sipush 143, 3) := by decide +kernel
theorem dX0_setToWork_4 : decode cX0_setToWork 4 = .ok (.iload_n 1, 1) := by decide +kernel
theorem dX0_setToWork_5 : decode cX0_setToWork 5 = .ok (.iadd, 1) := by decide +kernel
theorem dX0_setToWork_6 : decode cX0_setToWork 6 = .ok (.iload_n 2, 1) := by decide +kernel
theorem dX0_setToWork_7 : decode cX0_setToWork 7 = .ok (.invokevirtual 15, 3) := by decide +kernel
theorem dX0_setToWork_10 : decode cX0_setToWork 10 = .ok (.aload_n 0, 1) := by decide +kernel
theorem dX0_setToWork_11 : decode cX0_setToWork 11 = .ok (.sipush 149, 3) := by decide +kernel
theorem dX0_setToWork_14 : decode cX0_setToWork 14 = .ok (.iload_n 1, 1) := by decide +kernel
theorem dX0_setToWork_15 : decode cX0_setToWork 15 = .ok (.iadd, 1) := by decide +kernel
theorem dX0_setToWork_16 : decode cX0_setToWork 16 = .ok (.iload_n 3, 1) := by decide +kernel
theorem dX0_setToWork_17 : decode cX0_setToWork 17 = .ok (.invokevirtual 15, 3) := by decide +kernel
theorem dX0_setToWork_20 : decode cX0_setToWork 20 = .ok (.return_, 1) := by decide +kernel
set_option maxRecDepth 20000 in
theorem ggX0_letRest_X0_setToWork : GoodIn wsX0_letRest wsX0_setToWork := goodIn_r _ [5, 6, 7, 8, 4, 9, 10, 11] (by decide +kernel) (by decide +kernel)
set_option maxRecDepth 20000 in
theorem gX0_letRest_X0_setToWork : GoodIn wsX0_letRest (wsV RX0 40 RX0 yX0_setToWork wsX0_setToWork) := goodIn_app (goodIn_of _ (by decide +kernel)) ggX0_letRest_X0_setToWork
theorem dX0_letRest_0 : decode cX0_letRest 0 = .ok (.aload_n 0, 1) := by decide +kernel
theorem dX0_letRest_1 : decode cX0_letRest 1 = .ok (.iload_n 1, 1) := by decide +kernel
theorem dX0_letRest_2 : decode cX0_letRest 2 = .ok (.iconst (-1), 1) := by decide +kernel
theorem dX0_letRest_3 : decode cX0_letRest 3 = .ok (.iconst (-1), 1) := by decide +kernel
theorem dX0_letRest_4 : decode cX0_letRest 4 = .ok (.invokevirtual 40, 3) := by decide +kernel
theorem dX0_letRest_7 : decode cX0_letRest 7 = .ok (.return_, 1) := by decide +kernel
set_option maxRecDepth 20000 in
theorem ggX0_turnSnow_X0_at : GoodIn wsX0_turnSnow wsX0_at := goodIn_r _ [5, 6, 19] (by decide +kernel) (by decide +kernel)
set_option maxRecDepth 20000 in
theorem gX0_turnSnow_X0_at : GoodIn wsX0_turnSnow (wsV RX0 30 RX0 yX0_at wsX0_at) := goodIn_app (goodIn_of _ (by decide +kernel)) ggX0_turnSnow_X0_at
set_option maxRecDepth 20000 in
theorem ggX0_turnSnow_X0_put : GoodIn wsX0_turnSnow wsX0_put := goodIn_r _ [10, 6, 19] (by decide +kernel) (by decide +kernel)
set_option maxRecDepth 20000 in
theorem gX0_turnSnow_X0_put : GoodIn wsX0_turnSnow (wsV RX0 15 RX0 yX0_put wsX0_put) := goodIn_app (goodIn_of _ (by decide +kernel)) ggX0_turnSnow_X0_put
set_option maxRecDepth 20000 in
theorem ggX0_turnSnow_X0_letRest : GoodIn wsX0_turnSnow wsX0_letRest := goodIn_r _ [14, 15, 16, 17, 4, 18, 7, 8, 9, 10, 6, 19] (by decide +kernel) (by decide +kernel)
set_option maxRecDepth 20000 in
theorem gX0_turnSnow_X0_letRest : GoodIn wsX0_turnSnow (wsV RX0 26 RX0 yX0_letRest wsX0_letRest) := goodIn_app (goodIn_of _ (by decide +kernel)) ggX0_turnSnow_X0_letRest
theorem dX0_turnSnow_0 : decode cX0_turnSnow 0 = .ok (.aload_n 0, 1) := by decide +kernel
theorem dX0_turnSnow_1 : decode cX0_turnSnow 1 = .ok (.iconst 1, 1) := by decide +kernel
theorem dX0_turnSnow_2 : decode cX0_turnSnow 2 = .ok (.iconst 1, 1) := by decide +kernel
theorem dX0_turnSnow_3 : decode cX0_turnSnow 3 = .ok (.aload_n 0, 1) := by decide +kernel
theorem dX0_turnSnow_4 : decode cX0_turnSnow 4 = .ok (.iconst 1, 1) := by decide +kernel
theorem dX0_turnSnow_5 : decode cX0_turnSnow 5 = .ok (.invokevirtual 30, 3) := by decide +kernel
theorem dX0_turnSnow_8 : decode cX0_turnSnow 8 = .ok (.isub, 1) := by decide +kernel
theorem dX0_turnSnow_9 : decode cX0_turnSnow 9 = .ok (.invokevirtual 15, 3) := by decide +kernel
theorem dX0_turnSnow_12 : decode cX0_turnSnow 12 = .ok (.aload_n 0, 1) := by decide +kernel
theorem dX0_turnSnow_13 : decode cX0_turnSnow 13 = .ok (.iconst 1, 1) := by decide +kernel
theorem dX0_turnSnow_14 : decode cX0_turnSnow 14 = .ok (.invokevirtual 30, 3) := by decide +kernel
theorem dX0_turnSnow_17 : decode cX0_turnSnow 17 = .ok (.iconst 1, 1) := by decide +kernel
theorem dX0_turnSnow_18 : decode cX0_turnSnow 18 = .ok (.if_icmp .ne 22, 3) := by decide +kernel
theorem dX0_turnSnow_21 : decode cX0_turnSnow 21 = .ok (.iconst 0, 1) := by decide +kernel
theorem dX0_turnSnow_22 : decode cX0_turnSnow 22 = .ok (.istore_n 1, 1) := by decide +kernel
theorem dX0_turnSnow_23 : decode cX0_turnSnow 23 = .ok (.iload_n 1, 1) := by decide +kernel
theorem dX0_turnSnow_24 : decode cX0_turnSnow 24 = .ok (.bipush 6, 2) := by decide +kernel
theorem dX0_turnSnow_26 : decode cX0_turnSnow 26 = .ok (.if_icmp .ge 14, 3) := by decide +kernel
theorem dX0_turnSnow_29 : decode cX0_turnSnow 29 = .ok (.aload_n 0, 1) := by decide +kernel
theorem dX0_turnSnow_30 : decode cX0_turnSnow 30 = .ok (.iload_n 1, 1) := by decide +kernel
theorem dX0_turnSnow_31 : decode cX0_turnSnow 31 = .ok (.invokevirtual 26, 3) := by decide +kernel
theorem dX0_turnSnow_34 : decode cX0_turnSnow 34 = .ok (.iinc 1 1, 3) := by decide +kernel
theorem dX0_turnSnow_37 : decode cX0_turnSnow 37 = .ok (.goto (-14), 3) := by decide +kernel
theorem dX0_turnSnow_40 : decode cX0_turnSnow 40 = .ok (.return_, 1) := by decide +kernel
set_option maxRecDepth 20000 in
theorem ggX0_rainOf_J9_floorMod_7cf53 : GoodIn wsX0_rainOf wsJ9_floorMod_7cf53 := goodIn_r _ [4] (by decide +kernel) (by decide +kernel)
set_option maxRecDepth 20000 in
theorem gX0_rainOf_J9_floorMod_7cf53 : GoodIn wsX0_rainOf (va_wsS RX0 44 yJ9_floorMod_7cf53 wsJ9_floorMod_7cf53) := goodIn_app (goodIn_of _ (by decide +kernel)) ggX0_rainOf_J9_floorMod_7cf53
set_option maxRecDepth 20000 in
theorem ggX0_rainOf_X0_at : GoodIn wsX0_rainOf wsX0_at := goodIn_r _ [9, 10, 11] (by decide +kernel) (by decide +kernel)
set_option maxRecDepth 20000 in
theorem gX0_rainOf_X0_at : GoodIn wsX0_rainOf (wsV RX0 30 RX0 yX0_at wsX0_at) := goodIn_app (goodIn_of _ (by decide +kernel)) ggX0_rainOf_X0_at
theorem dX0_rainOf_0 : decode cX0_rainOf 0 = .ok (.bipush 7, 2) := by decide +kernel
theorem dX0_rainOf_2 : decode cX0_rainOf 2 = .ok (.iload_n 1, 1) := by decide +kernel
theorem dX0_rainOf_3 : decode cX0_rainOf 3 = .ok (.bipush 10, 2) := by decide +kernel
theorem dX0_rainOf_5 : decode cX0_rainOf 5 = .ok (.invokestatic 44, 3) := by decide +kernel
theorem dX0_rainOf_8 : decode cX0_rainOf 8 = .ok (.imul, 1) := by decide +kernel
theorem dX0_rainOf_9 : decode cX0_rainOf 9 = .ok (.aload_n 0, 1) := by decide +kernel
theorem dX0_rainOf_10 : decode cX0_rainOf 10 = .ok (.iconst 2, 1) := by decide +kernel
theorem dX0_rainOf_11 : decode cX0_rainOf 11 = .ok (.invokevirtual 30, 3) := by decide +kernel
theorem dX0_rainOf_14 : decode cX0_rainOf 14 = .ok (.iadd, 1) := by decide +kernel
theorem dX0_rainOf_15 : decode cX0_rainOf 15 = .ok (.bipush 10, 2) := by decide +kernel
theorem dX0_rainOf_17 : decode cX0_rainOf 17 = .ok (.invokestatic 44, 3) := by decide +kernel
theorem dX0_rainOf_20 : decode cX0_rainOf 20 = .ok (.ireturn, 1) := by decide +kernel
set_option maxRecDepth 20000 in
theorem ggX0_passDays_X0_add : GoodIn wsX0_passDays wsX0_add := goodIn_r _ [5, 6, 7, 8, 4, 9, 10, 11, 12, 13, 14, 69] (by decide +kernel) (by decide +kernel)
set_option maxRecDepth 20000 in
theorem gX0_passDays_X0_add : GoodIn wsX0_passDays (wsV RX0 23 RX0 yX0_add wsX0_add) := goodIn_app (goodIn_of _ (by decide +kernel)) ggX0_passDays_X0_add
set_option maxRecDepth 20000 in
theorem ggX0_passDays_X0_at : GoodIn wsX0_passDays wsX0_at := goodIn_r _ [9, 10, 69] (by decide +kernel) (by decide +kernel)
set_option maxRecDepth 20000 in
theorem gX0_passDays_X0_at : GoodIn wsX0_passDays (wsV RX0 30 RX0 yX0_at wsX0_at) := goodIn_app (goodIn_of _ (by decide +kernel)) ggX0_passDays_X0_at
set_option maxRecDepth 20000 in
theorem ggX0_passDays_X0_weather : GoodIn wsX0_passDays wsX0_weather := goodIn_r _ [18, 19, 20, 21, 4, 22, 6, 7, 8, 9, 10, 23, 24, 25, 26, 27, 28, 29, 1, 2, 3, 5, 11, 12, 13, 14, 30, 31, 32, 33, 34, 35, 36, 37, 69] (by decide +kernel) (by decide +kernel)
set_option maxRecDepth 20000 in
theorem gX0_passDays_X0_weather : GoodIn wsX0_passDays (wsV RX0 49 RX0 yX0_weather wsX0_weather) := goodIn_app (goodIn_of _ (by decide +kernel)) ggX0_passDays_X0_weather
set_option maxRecDepth 20000 in
theorem ggX0_passDays_X0_burn : GoodIn wsX0_passDays wsX0_burn := goodIn_r _ [41, 34, 35, 36, 37, 6, 7, 8, 4, 9, 10, 1, 2, 3, 5, 11, 12, 13, 14, 69] (by decide +kernel) (by decide +kernel)
set_option maxRecDepth 20000 in
theorem gX0_passDays_X0_burn : GoodIn wsX0_passDays (wsV RX0 52 RX0 yX0_burn wsX0_burn) := goodIn_app (goodIn_of _ (by decide +kernel)) ggX0_passDays_X0_burn
set_option maxRecDepth 20000 in
theorem ggX0_passDays_X0_cutTurves : GoodIn wsX0_passDays wsX0_cutTurves := goodIn_r _ [45, 34, 35, 36, 37, 6, 7, 8, 4, 9, 10, 1, 2, 3, 5, 11, 12, 13, 14, 46, 47, 48, 69] (by decide +kernel) (by decide +kernel)
set_option maxRecDepth 20000 in
theorem gX0_passDays_X0_cutTurves : GoodIn wsX0_passDays (wsV RX0 55 RX0 yX0_cutTurves wsX0_cutTurves) := goodIn_app (goodIn_of _ (by decide +kernel)) ggX0_passDays_X0_cutTurves
set_option maxRecDepth 20000 in
theorem ggX0_passDays_X0_rainOf : GoodIn wsX0_passDays wsX0_rainOf := goodIn_r _ [52, 53, 54, 55, 56, 6, 7, 8, 4, 9, 10, 69] (by decide +kernel) (by decide +kernel)
set_option maxRecDepth 20000 in
theorem gX0_passDays_X0_rainOf : GoodIn wsX0_passDays (wsV RX0 58 RX0 yX0_rainOf wsX0_rainOf) := goodIn_app (goodIn_of _ (by decide +kernel)) ggX0_passDays_X0_rainOf
set_option maxRecDepth 20000 in
theorem ggX0_passDays_X0_goCarts : GoodIn wsX0_passDays wsX0_goCarts := goodIn_r _ [60, 6, 7, 8, 4, 9, 10, 53, 54, 55, 56, 61, 62, 63, 64, 34, 35, 36, 37, 46, 47, 48, 1, 2, 3, 5, 11, 12, 13, 14, 65, 66, 67, 68, 69] (by decide +kernel) (by decide +kernel)
set_option maxRecDepth 20000 in
theorem gX0_passDays_X0_goCarts : GoodIn wsX0_passDays (wsV RX0 61 RX0 yX0_goCarts wsX0_goCarts) := goodIn_app (goodIn_of _ (by decide +kernel)) ggX0_passDays_X0_goCarts
theorem dX0_passDays_0 : decode cX0_passDays 0 = .ok (.iconst 0, 1) := by decide +kernel
theorem dX0_passDays_1 : decode cX0_passDays 1 = .ok (.istore_n 2, 1) := by decide +kernel
theorem dX0_passDays_2 : decode cX0_passDays 2 = .ok (.iconst 0, 1) := by decide +kernel
theorem dX0_passDays_3 : decode cX0_passDays 3 = .ok (.istore_n 3, 1) := by decide +kernel
theorem dX0_passDays_4 : decode cX0_passDays 4 = .ok (.iload_n 3, 1) := by decide +kernel
theorem dX0_passDays_5 : decode cX0_passDays 5 = .ok (.iload_n 1, 1) := by decide +kernel
theorem dX0_passDays_6 : decode cX0_passDays 6 = .ok (.if_icmp .ge 60, 3) := by decide +kernel
theorem dX0_passDays_9 : decode cX0_passDays 9 = .ok (.aload_n 0, 1) := by decide +kernel
theorem dX0_passDays_10 : decode cX0_passDays 10 = .ok (.iconst 0, 1) := by decide +kernel
theorem dX0_passDays_11 : decode cX0_passDays 11 = .ok (.iconst 1, 1) := by decide +kernel
theorem dX0_passDays_12 : decode cX0_passDays 12 = .ok (.invokevirtual 23, 3) := by decide +kernel
theorem dX0_passDays_15 : decode cX0_passDays 15 = .ok (.aload_n 0, 1) := by decide +kernel
theorem dX0_passDays_16 : decode cX0_passDays 16 = .ok (.iconst 1, 1) := by decide +kernel
theorem dX0_passDays_17 : decode cX0_passDays 17 = .ok (.invokevirtual 30, 3) := by decide +kernel
theorem dX0_passDays_20 : decode cX0_passDays 20 = .ok (.iconst 1, 1) := by decide +kernel
theorem dX0_passDays_21 : decode cX0_passDays 21 = .ok (.if_icmp .ne 15, 3) := by decide +kernel
theorem dX0_passDays_24 : decode cX0_passDays 24 = .ok (.aload_n 0, 1) := by decide +kernel
theorem dX0_passDays_25 : decode cX0_passDays 25 = .ok (.iconst 0, 1) := by decide +kernel
theorem dX0_passDays_26 : decode cX0_passDays 26 = .ok (.invokevirtual 49, 3) := by decide +kernel
theorem dX0_passDays_29 : decode cX0_passDays 29 = .ok (.aload_n 0, 1) := by decide +kernel
theorem dX0_passDays_30 : decode cX0_passDays 30 = .ok (.invokevirtual 52, 3) := by decide +kernel
theorem dX0_passDays_33 : decode cX0_passDays 33 = .ok (.goto 27, 3) := by decide +kernel
theorem dX0_passDays_36 : decode cX0_passDays 36 = .ok (.aload_n 0, 1) := by decide +kernel
theorem dX0_passDays_37 : decode cX0_passDays 37 = .ok (.invokevirtual 55, 3) := by decide +kernel
theorem dX0_passDays_40 : decode cX0_passDays 40 = .ok (.aload_n 0, 1) := by decide +kernel
theorem dX0_passDays_41 : decode cX0_passDays 41 = .ok (.aload_n 0, 1) := by decide +kernel
theorem dX0_passDays_42 : decode cX0_passDays 42 = .ok (.aload_n 0, 1) := by decide +kernel
theorem dX0_passDays_43 : decode cX0_passDays 43 = .ok (.iconst 0, 1) := by decide +kernel
theorem dX0_passDays_44 : decode cX0_passDays 44 = .ok (.invokevirtual 30, 3) := by decide +kernel
theorem dX0_passDays_47 : decode cX0_passDays 47 = .ok (.invokevirtual 58, 3) := by decide +kernel
theorem dX0_passDays_50 : decode cX0_passDays 50 = .ok (.invokevirtual 49, 3) := by decide +kernel
theorem dX0_passDays_53 : decode cX0_passDays 53 = .ok (.iload_n 2, 1) := by decide +kernel
theorem dX0_passDays_54 : decode cX0_passDays 54 = .ok (.aload_n 0, 1) := by decide +kernel
theorem dX0_passDays_55 : decode cX0_passDays 55 = .ok (.invokevirtual 61, 3) := by decide +kernel
theorem dX0_passDays_58 : decode cX0_passDays 58 = .ok (.iadd, 1) := by decide +kernel
theorem dX0_passDays_59 : decode cX0_passDays 59 = .ok (.istore_n 2, 1) := by decide +kernel
theorem dX0_passDays_60 : decode cX0_passDays 60 = .ok (.iinc 3 1, 3) := by decide +kernel
theorem dX0_passDays_63 : decode cX0_passDays 63 = .ok (.goto (-59), 3) := by decide +kernel
theorem dX0_passDays_66 : decode cX0_passDays 66 = .ok (.iload_n 2, 1) := by decide +kernel
theorem dX0_passDays_67 : decode cX0_passDays 67 = .ok (.ireturn, 1) := by decide +kernel
set_option maxRecDepth 20000 in
theorem ggX0_cutTurves_X0_at : GoodIn wsX0_cutTurves wsX0_at := goodIn_r _ [9, 10, 22] (by decide +kernel) (by decide +kernel)
set_option maxRecDepth 20000 in
theorem gX0_cutTurves_X0_at : GoodIn wsX0_cutTurves (wsV RX0 30 RX0 yX0_at wsX0_at) := goodIn_app (goodIn_of _ (by decide +kernel)) ggX0_cutTurves_X0_at
set_option maxRecDepth 20000 in
theorem ggX0_cutTurves_X0_add : GoodIn wsX0_cutTurves wsX0_add := goodIn_r _ [14, 5, 6, 7, 8, 9, 10, 15, 16, 17, 18, 22] (by decide +kernel) (by decide +kernel)
set_option maxRecDepth 20000 in
theorem gX0_cutTurves_X0_add : GoodIn wsX0_cutTurves (wsV RX0 23 RX0 yX0_add wsX0_add) := goodIn_app (goodIn_of _ (by decide +kernel)) ggX0_cutTurves_X0_add
set_option maxRecDepth 20000 in
theorem ggX0_cutTurves_X0_plotOf : GoodIn wsX0_cutTurves wsX0_plotOf := goodIn_r _ [21] (by decide +kernel) (by decide +kernel)
set_option maxRecDepth 20000 in
theorem gX0_cutTurves_X0_plotOf : GoodIn wsX0_cutTurves (va_wsS RX0 19 yX0_plotOf wsX0_plotOf) := goodIn_app (goodIn_of _ (by decide +kernel)) ggX0_cutTurves_X0_plotOf
theorem dX0_cutTurves_0 : decode cX0_cutTurves 0 = .ok (.iconst 0, 1) := by decide +kernel
theorem dX0_cutTurves_1 : decode cX0_cutTurves 1 = .ok (.istore_n 1, 1) := by decide +kernel
theorem dX0_cutTurves_2 : decode cX0_cutTurves 2 = .ok (.iload_n 1, 1) := by decide +kernel
theorem dX0_cutTurves_3 : decode cX0_cutTurves 3 = .ok (.bipush 6, 2) := by decide +kernel
theorem dX0_cutTurves_5 : decode cX0_cutTurves 5 = .ok (.if_icmp .ge 107, 3) := by decide +kernel
theorem dX0_cutTurves_8 : decode cX0_cutTurves 8 = .ok (.aload_n 0, 1) := by decide +kernel
theorem dX0_cutTurves_9 : decode cX0_cutTurves 9 = .ok (.sipush 143, 3) := by decide +kernel
theorem dX0_cutTurves_12 : decode cX0_cutTurves 12 = .ok (.iload_n 1, 1) := by decide +kernel
theorem dX0_cutTurves_13 : decode cX0_cutTurves 13 = .ok (.iadd, 1) := by decide +kernel
theorem dX0_cutTurves_14 : decode cX0_cutTurves 14 = .ok (.invokevirtual 30, 3) := by decide +kernel
theorem dX0_cutTurves_17 : decode cX0_cutTurves 17 = .ok (.istore_n 2, 1) := by decide +kernel
theorem dX0_cutTurves_18 : decode cX0_cutTurves 18 = .ok (.aload_n 0, 1) := by decide +kernel
theorem dX0_cutTurves_19 : decode cX0_cutTurves 19 = .ok (.sipush 149, 3) := by decide +kernel
theorem dX0_cutTurves_22 : decode cX0_cutTurves 22 = .ok (.iload_n 1, 1) := by decide +kernel
theorem dX0_cutTurves_23 : decode cX0_cutTurves 23 = .ok (.iadd, 1) := by decide +kernel
theorem dX0_cutTurves_24 : decode cX0_cutTurves 24 = .ok (.invokevirtual 30, 3) := by decide +kernel
theorem dX0_cutTurves_27 : decode cX0_cutTurves 27 = .ok (.istore_n 3, 1) := by decide +kernel
theorem dX0_cutTurves_28 : decode cX0_cutTurves 28 = .ok (.iload_n 2, 1) := by decide +kernel
theorem dX0_cutTurves_29 : decode cX0_cutTurves 29 = .ok (.iconst (-1), 1) := by decide +kernel
theorem dX0_cutTurves_30 : decode cX0_cutTurves 30 = .ok (.if_icmp .eq 76, 3) := by decide +kernel
theorem dX0_cutTurves_33 : decode cX0_cutTurves 33 = .ok (.iload_n 3, 1) := by decide +kernel
theorem dX0_cutTurves_34 : decode cX0_cutTurves 34 = .ok (.iconst (-1), 1) := by decide +kernel
theorem dX0_cutTurves_35 : decode cX0_cutTurves 35 = .ok (.if_icmp .eq 71, 3) := by decide +kernel
theorem dX0_cutTurves_38 : decode cX0_cutTurves 38 = .ok (.aload_n 0, 1) := by decide +kernel
theorem dX0_cutTurves_39 : decode cX0_cutTurves 39 = .ok (.sipush 137, 3) := by decide +kernel
theorem dX0_cutTurves_42 : decode cX0_cutTurves 42 = .ok (.iload_n 1, 1) := by decide +kernel
theorem dX0_cutTurves_43 : decode cX0_cutTurves 43 = .ok (.iadd, 1) := by decide +kernel
theorem dX0_cutTurves_44 : decode cX0_cutTurves 44 = .ok (.invokevirtual 30, 3) := by decide +kernel
theorem dX0_cutTurves_47 : decode cX0_cutTurves 47 = .ok (.aload_n 0, 1) := by decide +kernel
theorem dX0_cutTurves_48 : decode cX0_cutTurves 48 = .ok (.bipush 45, 2) := by decide +kernel
theorem dX0_cutTurves_50 : decode cX0_cutTurves 50 = .ok (.iload_n 3, 1) := by decide +kernel
theorem dX0_cutTurves_51 : decode cX0_cutTurves 51 = .ok (.iadd, 1) := by decide +kernel
theorem dX0_cutTurves_52 : decode cX0_cutTurves 52 = .ok (.invokevirtual 30, 3) := by decide +kernel
theorem dX0_cutTurves_55 : decode cX0_cutTurves 55 = .ok (.invokestatic 65, 3) := by decide +kernel
theorem dX0_cutTurves_58 : decode cX0_cutTurves 58 = .ok (.istore 4, 2) := by decide +kernel
theorem dX0_cutTurves_60 : decode cX0_cutTurves 60 = .ok (.aload_n 0, 1) := by decide +kernel
theorem dX0_cutTurves_61 : decode cX0_cutTurves 61 = .ok (.bipush 45, 2) := by decide +kernel
theorem dX0_cutTurves_63 : decode cX0_cutTurves 63 = .ok (.iload_n 3, 1) := by decide +kernel
theorem dX0_cutTurves_64 : decode cX0_cutTurves 64 = .ok (.iadd, 1) := by decide +kernel
theorem dX0_cutTurves_65 : decode cX0_cutTurves 65 = .ok (.iload 4, 2) := by decide +kernel
theorem dX0_cutTurves_67 : decode cX0_cutTurves 67 = .ok (.ineg, 1) := by decide +kernel
theorem dX0_cutTurves_68 : decode cX0_cutTurves 68 = .ok (.invokevirtual 23, 3) := by decide +kernel
theorem dX0_cutTurves_71 : decode cX0_cutTurves 71 = .ok (.aload_n 0, 1) := by decide +kernel
theorem dX0_cutTurves_72 : decode cX0_cutTurves 72 = .ok (.bipush 77, 2) := by decide +kernel
theorem dX0_cutTurves_74 : decode cX0_cutTurves 74 = .ok (.iload_n 2, 1) := by decide +kernel
theorem dX0_cutTurves_75 : decode cX0_cutTurves 75 = .ok (.iload_n 3, 1) := by decide +kernel
theorem dX0_cutTurves_76 : decode cX0_cutTurves 76 = .ok (.invokestatic 19, 3) := by decide +kernel
theorem dX0_cutTurves_79 : decode cX0_cutTurves 79 = .ok (.iadd, 1) := by decide +kernel
theorem dX0_cutTurves_80 : decode cX0_cutTurves 80 = .ok (.iload 4, 2) := by decide +kernel
theorem dX0_cutTurves_82 : decode cX0_cutTurves 82 = .ok (.invokevirtual 23, 3) := by decide +kernel
theorem dX0_cutTurves_85 : decode cX0_cutTurves 85 = .ok (.aload_n 0, 1) := by decide +kernel
theorem dX0_cutTurves_86 : decode cX0_cutTurves 86 = .ok (.bipush 20, 2) := by decide +kernel
theorem dX0_cutTurves_88 : decode cX0_cutTurves 88 = .ok (.iload_n 2, 1) := by decide +kernel
theorem dX0_cutTurves_89 : decode cX0_cutTurves 89 = .ok (.iadd, 1) := by decide +kernel
theorem dX0_cutTurves_90 : decode cX0_cutTurves 90 = .ok (.iload 4, 2) := by decide +kernel
theorem dX0_cutTurves_92 : decode cX0_cutTurves 92 = .ok (.invokevirtual 23, 3) := by decide +kernel
theorem dX0_cutTurves_95 : decode cX0_cutTurves 95 = .ok (.aload_n 0, 1) := by decide +kernel
theorem dX0_cutTurves_96 : decode cX0_cutTurves 96 = .ok (.sipush 155, 3) := by decide +kernel
theorem dX0_cutTurves_99 : decode cX0_cutTurves 99 = .ok (.iload_n 1, 1) := by decide +kernel
theorem dX0_cutTurves_100 : decode cX0_cutTurves 100 = .ok (.iadd, 1) := by decide +kernel
theorem dX0_cutTurves_101 : decode cX0_cutTurves 101 = .ok (.iload 4, 2) := by decide +kernel
theorem dX0_cutTurves_103 : decode cX0_cutTurves 103 = .ok (.invokevirtual 23, 3) := by decide +kernel
theorem dX0_cutTurves_106 : decode cX0_cutTurves 106 = .ok (.iinc 1 1, 3) := by decide +kernel
theorem dX0_cutTurves_109 : decode cX0_cutTurves 109 = .ok (.goto (-107), 3) := by decide +kernel
theorem dX0_cutTurves_112 : decode cX0_cutTurves 112 = .ok (.return_, 1) := by decide +kernel
set_option maxRecDepth 20000 in
theorem ggX0_weather_X0_turvesOn : GoodIn wsX0_weather wsX0_turvesOn := goodIn_r _ [5, 6, 7, 8, 4, 9, 10, 34] (by decide +kernel) (by decide +kernel)
set_option maxRecDepth 20000 in
theorem gX0_weather_X0_turvesOn : GoodIn wsX0_weather (wsV RX0 68 RX0 yX0_turvesOn wsX0_turvesOn) := goodIn_app (goodIn_of _ (by decide +kernel)) ggX0_weather_X0_turvesOn
set_option maxRecDepth 20000 in
theorem ggX0_weather_X0_wetAgain : GoodIn wsX0_weather wsX0_wetAgain := goodIn_r _ [14, 6, 7, 8, 4, 9, 10, 15, 16, 17, 18, 19, 20, 21, 22, 23, 24, 25, 34] (by decide +kernel) (by decide +kernel)
set_option maxRecDepth 20000 in
theorem gX0_weather_X0_wetAgain : GoodIn wsX0_weather (wsV RX0 72 RX0 yX0_wetAgain wsX0_wetAgain) := goodIn_app (goodIn_of _ (by decide +kernel)) ggX0_weather_X0_wetAgain
set_option maxRecDepth 20000 in
theorem ggX0_weather_X0_dryOut : GoodIn wsX0_weather wsX0_dryOut := goodIn_r _ [29, 30, 31, 32, 33, 6, 7, 8, 4, 9, 10, 15, 16, 17, 18, 19, 20, 21, 22, 23, 24, 25, 34] (by decide +kernel) (by decide +kernel)
set_option maxRecDepth 20000 in
theorem gX0_weather_X0_dryOut : GoodIn wsX0_weather (wsV RX0 75 RX0 yX0_dryOut wsX0_dryOut) := goodIn_app (goodIn_of _ (by decide +kernel)) ggX0_weather_X0_dryOut
theorem dX0_weather_0 : decode cX0_weather 0 = .ok (.iload_n 1, 1) := by decide +kernel
theorem dX0_weather_1 : decode cX0_weather 1 = .ok (.iconst 3, 1) := by decide +kernel
theorem dX0_weather_2 : decode cX0_weather 2 = .ok (.if_icmp .le 10, 3) := by decide +kernel
theorem dX0_weather_5 : decode cX0_weather 5 = .ok (.iload_n 1, 1) := by decide +kernel
theorem dX0_weather_6 : decode cX0_weather 6 = .ok (.bipush 6, 2) := by decide +kernel
theorem dX0_weather_8 : decode cX0_weather 8 = .ok (.if_icmp .gt 4, 3) := by decide +kernel
theorem dX0_weather_11 : decode cX0_weather 11 = .ok (.return_, 1) := by decide +kernel
theorem dX0_weather_12 : decode cX0_weather 12 = .ok (.iconst 0, 1) := by decide +kernel
theorem dX0_weather_13 : decode cX0_weather 13 = .ok (.istore_n 2, 1) := by decide +kernel
theorem dX0_weather_14 : decode cX0_weather 14 = .ok (.iload_n 2, 1) := by decide +kernel
theorem dX0_weather_15 : decode cX0_weather 15 = .ok (.bipush 20, 2) := by decide +kernel
theorem dX0_weather_17 : decode cX0_weather 17 = .ok (.if_icmp .ge 41, 3) := by decide +kernel
theorem dX0_weather_20 : decode cX0_weather 20 = .ok (.aload_n 0, 1) := by decide +kernel
theorem dX0_weather_21 : decode cX0_weather 21 = .ok (.iload_n 2, 1) := by decide +kernel
theorem dX0_weather_22 : decode cX0_weather 22 = .ok (.iconst 1, 1) := by decide +kernel
theorem dX0_weather_23 : decode cX0_weather 23 = .ok (.iconst 1, 1) := by decide +kernel
theorem dX0_weather_24 : decode cX0_weather 24 = .ok (.invokevirtual 68, 3) := by decide +kernel
theorem dX0_weather_27 : decode cX0_weather 27 = .ok (.ifCond .ne 6, 3) := by decide +kernel
theorem dX0_weather_30 : decode cX0_weather 30 = .ok (.goto 22, 3) := by decide +kernel
theorem dX0_weather_33 : decode cX0_weather 33 = .ok (.iload_n 1, 1) := by decide +kernel
theorem dX0_weather_34 : decode cX0_weather 34 = .ok (.bipush 6, 2) := by decide +kernel
theorem dX0_weather_36 : decode cX0_weather 36 = .ok (.if_icmp .le 11, 3) := by decide +kernel
theorem dX0_weather_39 : decode cX0_weather 39 = .ok (.aload_n 0, 1) := by decide +kernel
theorem dX0_weather_40 : decode cX0_weather 40 = .ok (.iload_n 2, 1) := by decide +kernel
theorem dX0_weather_41 : decode cX0_weather 41 = .ok (.invokevirtual 72, 3) := by decide +kernel
theorem dX0_weather_44 : decode cX0_weather 44 = .ok (.goto 8, 3) := by decide +kernel
theorem dX0_weather_47 : decode cX0_weather 47 = .ok (.aload_n 0, 1) := by decide +kernel
theorem dX0_weather_48 : decode cX0_weather 48 = .ok (.iload_n 2, 1) := by decide +kernel
theorem dX0_weather_49 : decode cX0_weather 49 = .ok (.invokevirtual 75, 3) := by decide +kernel
theorem dX0_weather_52 : decode cX0_weather 52 = .ok (.iinc 2 1, 3) := by decide +kernel
theorem dX0_weather_55 : decode cX0_weather 55 = .ok (.goto (-41), 3) := by decide +kernel
theorem dX0_weather_58 : decode cX0_weather 58 = .ok (.return_, 1) := by decide +kernel
set_option maxRecDepth 20000 in
theorem ggX0_wetAgain_X0_at : GoodIn wsX0_wetAgain wsX0_at := goodIn_r _ [5, 6, 18] (by decide +kernel) (by decide +kernel)
set_option maxRecDepth 20000 in
theorem gX0_wetAgain_X0_at : GoodIn wsX0_wetAgain (wsV RX0 30 RX0 yX0_at wsX0_at) := goodIn_app (goodIn_of _ (by decide +kernel)) ggX0_wetAgain_X0_at
set_option maxRecDepth 20000 in
theorem ggX0_wetAgain_X0_halfRoundedUp : GoodIn wsX0_wetAgain wsX0_halfRoundedUp := goodIn_r _ [9] (by decide +kernel) (by decide +kernel)
set_option maxRecDepth 20000 in
theorem gX0_wetAgain_X0_halfRoundedUp : GoodIn wsX0_wetAgain (va_wsS RX0 78 yX0_halfRoundedUp wsX0_halfRoundedUp) := goodIn_app (goodIn_of _ (by decide +kernel)) ggX0_wetAgain_X0_halfRoundedUp
set_option maxRecDepth 20000 in
theorem ggX0_wetAgain_X0_add : GoodIn wsX0_wetAgain wsX0_add := goodIn_r _ [13, 1, 2, 3, 4, 5, 6, 14, 15, 16, 17, 18] (by decide +kernel) (by decide +kernel)
set_option maxRecDepth 20000 in
theorem gX0_wetAgain_X0_add : GoodIn wsX0_wetAgain (wsV RX0 23 RX0 yX0_add wsX0_add) := goodIn_app (goodIn_of _ (by decide +kernel)) ggX0_wetAgain_X0_add
theorem dX0_wetAgain_0 : decode cX0_wetAgain 0 = .ok (.aload_n 0, 1) := by decide +kernel
theorem dX0_wetAgain_1 : decode cX0_wetAgain 1 = .ok (.bipush 97, 2) := by decide +kernel
theorem dX0_wetAgain_3 : decode cX0_wetAgain 3 = .ok (.iload_n 1, 1) := by decide +kernel
theorem dX0_wetAgain_4 : decode cX0_wetAgain 4 = .ok (.iadd, 1) := by decide +kernel
theorem dX0_wetAgain_5 : decode cX0_wetAgain 5 = .ok (.invokevirtual 30, 3) := by decide +kernel
theorem dX0_wetAgain_8 : decode cX0_wetAgain 8 = .ok (.invokestatic 78, 3) := by decide +kernel
theorem dX0_wetAgain_11 : decode cX0_wetAgain 11 = .ok (.istore_n 2, 1) := by decide +kernel
theorem dX0_wetAgain_12 : decode cX0_wetAgain 12 = .ok (.aload_n 0, 1) := by decide +kernel
theorem dX0_wetAgain_13 : decode cX0_wetAgain 13 = .ok (.bipush 117, 2) := by decide +kernel
theorem dX0_wetAgain_15 : decode cX0_wetAgain 15 = .ok (.iload_n 1, 1) := by decide +kernel
theorem dX0_wetAgain_16 : decode cX0_wetAgain 16 = .ok (.iadd, 1) := by decide +kernel
theorem dX0_wetAgain_17 : decode cX0_wetAgain 17 = .ok (.invokevirtual 30, 3) := by decide +kernel
theorem dX0_wetAgain_20 : decode cX0_wetAgain 20 = .ok (.invokestatic 78, 3) := by decide +kernel
theorem dX0_wetAgain_23 : decode cX0_wetAgain 23 = .ok (.istore_n 3, 1) := by decide +kernel
theorem dX0_wetAgain_24 : decode cX0_wetAgain 24 = .ok (.aload_n 0, 1) := by decide +kernel
theorem dX0_wetAgain_25 : decode cX0_wetAgain 25 = .ok (.bipush 97, 2) := by decide +kernel
theorem dX0_wetAgain_27 : decode cX0_wetAgain 27 = .ok (.iload_n 1, 1) := by decide +kernel
theorem dX0_wetAgain_28 : decode cX0_wetAgain 28 = .ok (.iadd, 1) := by decide +kernel
theorem dX0_wetAgain_29 : decode cX0_wetAgain 29 = .ok (.iload_n 2, 1) := by decide +kernel
theorem dX0_wetAgain_30 : decode cX0_wetAgain 30 = .ok (.ineg, 1) := by decide +kernel
theorem dX0_wetAgain_31 : decode cX0_wetAgain 31 = .ok (.invokevirtual 23, 3) := by decide +kernel
theorem dX0_wetAgain_34 : decode cX0_wetAgain 34 = .ok (.aload_n 0, 1) := by decide +kernel
theorem dX0_wetAgain_35 : decode cX0_wetAgain 35 = .ok (.bipush 117, 2) := by decide +kernel
theorem dX0_wetAgain_37 : decode cX0_wetAgain 37 = .ok (.iload_n 1, 1) := by decide +kernel
theorem dX0_wetAgain_38 : decode cX0_wetAgain 38 = .ok (.iadd, 1) := by decide +kernel
theorem dX0_wetAgain_39 : decode cX0_wetAgain 39 = .ok (.iload_n 3, 1) := by decide +kernel
theorem dX0_wetAgain_40 : decode cX0_wetAgain 40 = .ok (.ineg, 1) := by decide +kernel
theorem dX0_wetAgain_41 : decode cX0_wetAgain 41 = .ok (.invokevirtual 23, 3) := by decide +kernel
theorem dX0_wetAgain_44 : decode cX0_wetAgain 44 = .ok (.aload_n 0, 1) := by decide +kernel
theorem dX0_wetAgain_45 : decode cX0_wetAgain 45 = .ok (.bipush 77, 2) := by decide +kernel
theorem dX0_wetAgain_47 : decode cX0_wetAgain 47 = .ok (.iload_n 1, 1) := by decide +kernel
theorem dX0_wetAgain_48 : decode cX0_wetAgain 48 = .ok (.iadd, 1) := by decide +kernel
theorem dX0_wetAgain_49 : decode cX0_wetAgain 49 = .ok (.iload_n 2, 1) := by decide +kernel
theorem dX0_wetAgain_50 : decode cX0_wetAgain 50 = .ok (.iload_n 3, 1) := by decide +kernel
theorem dX0_wetAgain_51 : decode cX0_wetAgain 51 = .ok (.iadd, 1) := by decide +kernel
theorem dX0_wetAgain_52 : decode cX0_wetAgain 52 = .ok (.invokevirtual 23, 3) := by decide +kernel
theorem dX0_wetAgain_55 : decode cX0_wetAgain 55 = .ok (.return_, 1) := by decide +kernel
set_option maxRecDepth 20000 in
theorem ggX0_dryOut_X0_at : GoodIn wsX0_dryOut wsX0_at := goodIn_r _ [9, 10, 22] (by decide +kernel) (by decide +kernel)
set_option maxRecDepth 20000 in
theorem gX0_dryOut_X0_at : GoodIn wsX0_dryOut (wsV RX0 30 RX0 yX0_at wsX0_at) := goodIn_app (goodIn_of _ (by decide +kernel)) ggX0_dryOut_X0_at
set_option maxRecDepth 20000 in
theorem ggX0_dryOut_X0_halfRoundedUp : GoodIn wsX0_dryOut wsX0_halfRoundedUp := goodIn_r _ [13] (by decide +kernel) (by decide +kernel)
set_option maxRecDepth 20000 in
theorem gX0_dryOut_X0_halfRoundedUp : GoodIn wsX0_dryOut (va_wsS RX0 78 yX0_halfRoundedUp wsX0_halfRoundedUp) := goodIn_app (goodIn_of _ (by decide +kernel)) ggX0_dryOut_X0_halfRoundedUp
set_option maxRecDepth 20000 in
theorem ggX0_dryOut_X0_add : GoodIn wsX0_dryOut wsX0_add := goodIn_r _ [17, 5, 6, 7, 8, 9, 10, 18, 19, 20, 21, 22] (by decide +kernel) (by decide +kernel)
set_option maxRecDepth 20000 in
theorem gX0_dryOut_X0_add : GoodIn wsX0_dryOut (wsV RX0 23 RX0 yX0_add wsX0_add) := goodIn_app (goodIn_of _ (by decide +kernel)) ggX0_dryOut_X0_add
theorem dX0_dryOut_0 : decode cX0_dryOut 0 = .ok (.aload_n 0, 1) := by decide +kernel
theorem dX0_dryOut_1 : decode cX0_dryOut 1 = .ok (.bipush 97, 2) := by decide +kernel
theorem dX0_dryOut_3 : decode cX0_dryOut 3 = .ok (.iload_n 1, 1) := by decide +kernel
theorem dX0_dryOut_4 : decode cX0_dryOut 4 = .ok (.iadd, 1) := by decide +kernel
theorem dX0_dryOut_5 : decode cX0_dryOut 5 = .ok (.invokevirtual 30, 3) := by decide +kernel
theorem dX0_dryOut_8 : decode cX0_dryOut 8 = .ok (.istore_n 2, 1) := by decide +kernel
theorem dX0_dryOut_9 : decode cX0_dryOut 9 = .ok (.iload_n 2, 1) := by decide +kernel
theorem dX0_dryOut_10 : decode cX0_dryOut 10 = .ok (.iconst 3, 1) := by decide +kernel
theorem dX0_dryOut_11 : decode cX0_dryOut 11 = .ok (.idiv, 1) := by decide +kernel
theorem dX0_dryOut_12 : decode cX0_dryOut 12 = .ok (.iconst 1, 1) := by decide +kernel
theorem dX0_dryOut_13 : decode cX0_dryOut 13 = .ok (.iadd, 1) := by decide +kernel
theorem dX0_dryOut_14 : decode cX0_dryOut 14 = .ok (.iload_n 2, 1) := by decide +kernel
theorem dX0_dryOut_15 : decode cX0_dryOut 15 = .ok (.invokestatic 65, 3) := by decide +kernel
theorem dX0_dryOut_18 : decode cX0_dryOut 18 = .ok (.istore_n 3, 1) := by decide +kernel
theorem dX0_dryOut_19 : decode cX0_dryOut 19 = .ok (.aload_n 0, 1) := by decide +kernel
theorem dX0_dryOut_20 : decode cX0_dryOut 20 = .ok (.bipush 77, 2) := by decide +kernel
theorem dX0_dryOut_22 : decode cX0_dryOut 22 = .ok (.iload_n 1, 1) := by decide +kernel
theorem dX0_dryOut_23 : decode cX0_dryOut 23 = .ok (.iadd, 1) := by decide +kernel
theorem dX0_dryOut_24 : decode cX0_dryOut 24 = .ok (.invokevirtual 30, 3) := by decide +kernel
theorem dX0_dryOut_27 : decode cX0_dryOut 27 = .ok (.invokestatic 78, 3) := by decide +kernel
theorem dX0_dryOut_30 : decode cX0_dryOut 30 = .ok (.istore 4, 2) := by decide +kernel
theorem dX0_dryOut_32 : decode cX0_dryOut 32 = .ok (.aload_n 0, 1) := by decide +kernel
theorem dX0_dryOut_33 : decode cX0_dryOut 33 = .ok (.bipush 77, 2) := by decide +kernel
theorem dX0_dryOut_35 : decode cX0_dryOut 35 = .ok (.iload_n 1, 1) := by decide +kernel
theorem dX0_dryOut_36 : decode cX0_dryOut 36 = .ok (.iadd, 1) := by decide +kernel
theorem dX0_dryOut_37 : decode cX0_dryOut 37 = .ok (.iload 4, 2) := by decide +kernel
theorem dX0_dryOut_39 : decode cX0_dryOut 39 = .ok (.ineg, 1) := by decide +kernel
theorem dX0_dryOut_40 : decode cX0_dryOut 40 = .ok (.invokevirtual 23, 3) := by decide +kernel
theorem dX0_dryOut_43 : decode cX0_dryOut 43 = .ok (.aload_n 0, 1) := by decide +kernel
theorem dX0_dryOut_44 : decode cX0_dryOut 44 = .ok (.bipush 97, 2) := by decide +kernel
theorem dX0_dryOut_46 : decode cX0_dryOut 46 = .ok (.iload_n 1, 1) := by decide +kernel
theorem dX0_dryOut_47 : decode cX0_dryOut 47 = .ok (.iadd, 1) := by decide +kernel
theorem dX0_dryOut_48 : decode cX0_dryOut 48 = .ok (.iload 4, 2) := by decide +kernel
theorem dX0_dryOut_50 : decode cX0_dryOut 50 = .ok (.iload_n 3, 1) := by decide +kernel
theorem dX0_dryOut_51 : decode cX0_dryOut 51 = .ok (.isub, 1) := by decide +kernel
theorem dX0_dryOut_52 : decode cX0_dryOut 52 = .ok (.invokevirtual 23, 3) := by decide +kernel
theorem dX0_dryOut_55 : decode cX0_dryOut 55 = .ok (.aload_n 0, 1) := by decide +kernel
theorem dX0_dryOut_56 : decode cX0_dryOut 56 = .ok (.bipush 117, 2) := by decide +kernel
theorem dX0_dryOut_58 : decode cX0_dryOut 58 = .ok (.iload_n 1, 1) := by decide +kernel
theorem dX0_dryOut_59 : decode cX0_dryOut 59 = .ok (.iadd, 1) := by decide +kernel
theorem dX0_dryOut_60 : decode cX0_dryOut 60 = .ok (.iload_n 3, 1) := by decide +kernel
theorem dX0_dryOut_61 : decode cX0_dryOut 61 = .ok (.invokevirtual 23, 3) := by decide +kernel
theorem dX0_dryOut_64 : decode cX0_dryOut 64 = .ok (.return_, 1) := by decide +kernel
theorem dX0_halfRoundedUp_0 : decode cX0_halfRoundedUp 0 = .ok (.iload_n 0, 1) := by decide +kernel
theorem dX0_halfRoundedUp_1 : decode cX0_halfRoundedUp 1 = .ok (.iconst 1, 1) := by decide +kernel
theorem dX0_halfRoundedUp_2 : decode cX0_halfRoundedUp 2 = .ok (.iadd, 1) := by decide +kernel
theorem dX0_halfRoundedUp_3 : decode cX0_halfRoundedUp 3 = .ok (.iconst 2, 1) := by decide +kernel
theorem dX0_halfRoundedUp_4 : decode cX0_halfRoundedUp 4 = .ok (.idiv, 1) := by decide +kernel
theorem dX0_halfRoundedUp_5 : decode cX0_halfRoundedUp 5 = .ok (.ireturn, 1) := by decide +kernel
set_option maxRecDepth 20000 in
theorem ggX0_goCarts_X0_at : GoodIn wsX0_goCarts wsX0_at := goodIn_r _ [5, 6, 34] (by decide +kernel) (by decide +kernel)
set_option maxRecDepth 20000 in
theorem gX0_goCarts_X0_at : GoodIn wsX0_goCarts (wsV RX0 30 RX0 yX0_at wsX0_at) := goodIn_app (goodIn_of _ (by decide +kernel)) ggX0_goCarts_X0_at
set_option maxRecDepth 20000 in
theorem ggX0_goCarts_J9_floorMod_7cf53 : GoodIn wsX0_goCarts wsJ9_floorMod_7cf53 := goodIn_r _ [10] (by decide +kernel) (by decide +kernel)
set_option maxRecDepth 20000 in
theorem gX0_goCarts_J9_floorMod_7cf53 : GoodIn wsX0_goCarts (va_wsS RX0 44 yJ9_floorMod_7cf53 wsJ9_floorMod_7cf53) := goodIn_app (goodIn_of _ (by decide +kernel)) ggX0_goCarts_J9_floorMod_7cf53
set_option maxRecDepth 20000 in
theorem ggX0_goCarts_X0_cartHome : GoodIn wsX0_goCarts wsX0_cartHome := goodIn_r _ [14, 15, 16, 17, 18, 19, 20, 4, 21, 1, 2, 3, 5, 6, 22, 23, 24, 25, 26, 27, 28, 29, 30, 31, 32, 33, 34] (by decide +kernel) (by decide +kernel)
set_option maxRecDepth 20000 in
theorem gX0_goCarts_X0_cartHome : GoodIn wsX0_goCarts (wsV RX0 81 RX0 yX0_cartHome wsX0_cartHome) := goodIn_app (goodIn_of _ (by decide +kernel)) ggX0_goCarts_X0_cartHome
theorem dX0_goCarts_0 : decode cX0_goCarts 0 = .ok (.aload_n 0, 1) := by decide +kernel
theorem dX0_goCarts_1 : decode cX0_goCarts 1 = .ok (.iconst 0, 1) := by decide +kernel
theorem dX0_goCarts_2 : decode cX0_goCarts 2 = .ok (.invokevirtual 30, 3) := by decide +kernel
theorem dX0_goCarts_5 : decode cX0_goCarts 5 = .ok (.iconst 5, 1) := by decide +kernel
theorem dX0_goCarts_6 : decode cX0_goCarts 6 = .ok (.invokestatic 44, 3) := by decide +kernel
theorem dX0_goCarts_9 : decode cX0_goCarts 9 = .ok (.istore_n 1, 1) := by decide +kernel
theorem dX0_goCarts_10 : decode cX0_goCarts 10 = .ok (.iconst 0, 1) := by decide +kernel
theorem dX0_goCarts_11 : decode cX0_goCarts 11 = .ok (.istore_n 2, 1) := by decide +kernel
theorem dX0_goCarts_12 : decode cX0_goCarts 12 = .ok (.iconst 0, 1) := by decide +kernel
theorem dX0_goCarts_13 : decode cX0_goCarts 13 = .ok (.istore_n 3, 1) := by decide +kernel
theorem dX0_goCarts_14 : decode cX0_goCarts 14 = .ok (.iload_n 3, 1) := by decide +kernel
theorem dX0_goCarts_15 : decode cX0_goCarts 15 = .ok (.iconst 4, 1) := by decide +kernel
theorem dX0_goCarts_16 : decode cX0_goCarts 16 = .ok (.if_icmp .ge 61, 3) := by decide +kernel
theorem dX0_goCarts_19 : decode cX0_goCarts 19 = .ok (.aload_n 0, 1) := by decide +kernel
theorem dX0_goCarts_20 : decode cX0_goCarts 20 = .ok (.bipush 49, 2) := by decide +kernel
theorem dX0_goCarts_22 : decode cX0_goCarts 22 = .ok (.iload_n 3, 1) := by decide +kernel
theorem dX0_goCarts_23 : decode cX0_goCarts 23 = .ok (.iadd, 1) := by decide +kernel
theorem dX0_goCarts_24 : decode cX0_goCarts 24 = .ok (.invokevirtual 30, 3) := by decide +kernel
theorem dX0_goCarts_27 : decode cX0_goCarts 27 = .ok (.istore 4, 2) := by decide +kernel
theorem dX0_goCarts_29 : decode cX0_goCarts 29 = .ok (.iconst 0, 1) := by decide +kernel
theorem dX0_goCarts_30 : decode cX0_goCarts 30 = .ok (.istore 5, 2) := by decide +kernel
theorem dX0_goCarts_32 : decode cX0_goCarts 32 = .ok (.iload 5, 2) := by decide +kernel
theorem dX0_goCarts_34 : decode cX0_goCarts 34 = .ok (.iconst 5, 1) := by decide +kernel
theorem dX0_goCarts_35 : decode cX0_goCarts 35 = .ok (.if_icmp .ge 36, 3) := by decide +kernel
theorem dX0_goCarts_38 : decode cX0_goCarts 38 = .ok (.aload_n 0, 1) := by decide +kernel
theorem dX0_goCarts_39 : decode cX0_goCarts 39 = .ok (.iload_n 1, 1) := by decide +kernel
theorem dX0_goCarts_40 : decode cX0_goCarts 40 = .ok (.iload 5, 2) := by decide +kernel
theorem dX0_goCarts_42 : decode cX0_goCarts 42 = .ok (.iadd, 1) := by decide +kernel
theorem dX0_goCarts_43 : decode cX0_goCarts 43 = .ok (.iconst 5, 1) := by decide +kernel
theorem dX0_goCarts_44 : decode cX0_goCarts 44 = .ok (.irem, 1) := by decide +kernel
theorem dX0_goCarts_45 : decode cX0_goCarts 45 = .ok (.iload_n 3, 1) := by decide +kernel
theorem dX0_goCarts_46 : decode cX0_goCarts 46 = .ok (.iload 4, 2) := by decide +kernel
theorem dX0_goCarts_48 : decode cX0_goCarts 48 = .ok (.invokevirtual 81, 3) := by decide +kernel
theorem dX0_goCarts_51 : decode cX0_goCarts 51 = .ok (.istore 6, 2) := by decide +kernel
theorem dX0_goCarts_53 : decode cX0_goCarts 53 = .ok (.iload 4, 2) := by decide +kernel
theorem dX0_goCarts_55 : decode cX0_goCarts 55 = .ok (.iload 6, 2) := by decide +kernel
theorem dX0_goCarts_57 : decode cX0_goCarts 57 = .ok (.isub, 1) := by decide +kernel
theorem dX0_goCarts_58 : decode cX0_goCarts 58 = .ok (.istore 4, 2) := by decide +kernel
theorem dX0_goCarts_60 : decode cX0_goCarts 60 = .ok (.iload_n 2, 1) := by decide +kernel
theorem dX0_goCarts_61 : decode cX0_goCarts 61 = .ok (.iload 6, 2) := by decide +kernel
theorem dX0_goCarts_63 : decode cX0_goCarts 63 = .ok (.iadd, 1) := by decide +kernel
theorem dX0_goCarts_64 : decode cX0_goCarts 64 = .ok (.istore_n 2, 1) := by decide +kernel
theorem dX0_goCarts_65 : decode cX0_goCarts 65 = .ok (.iinc 5 1, 3) := by decide +kernel
theorem dX0_goCarts_68 : decode cX0_goCarts 68 = .ok (.goto (-36), 3) := by decide +kernel
theorem dX0_goCarts_71 : decode cX0_goCarts 71 = .ok (.iinc 3 1, 3) := by decide +kernel
theorem dX0_goCarts_74 : decode cX0_goCarts 74 = .ok (.goto (-60), 3) := by decide +kernel
theorem dX0_goCarts_77 : decode cX0_goCarts 77 = .ok (.iload_n 2, 1) := by decide +kernel
theorem dX0_goCarts_78 : decode cX0_goCarts 78 = .ok (.ireturn, 1) := by decide +kernel
set_option maxRecDepth 20000 in
theorem ggX0_cartHome_X0_plotOf : GoodIn wsX0_cartHome wsX0_plotOf := goodIn_r _ [8] (by decide +kernel) (by decide +kernel)
set_option maxRecDepth 20000 in
theorem gX0_cartHome_X0_plotOf : GoodIn wsX0_cartHome (va_wsS RX0 19 yX0_plotOf wsX0_plotOf) := goodIn_app (goodIn_of _ (by decide +kernel)) ggX0_cartHome_X0_plotOf
set_option maxRecDepth 20000 in
theorem ggX0_cartHome_X0_at : GoodIn wsX0_cartHome wsX0_at := goodIn_r _ [12, 13, 26] (by decide +kernel) (by decide +kernel)
set_option maxRecDepth 20000 in
theorem gX0_cartHome_X0_at : GoodIn wsX0_cartHome (wsV RX0 30 RX0 yX0_at wsX0_at) := goodIn_app (goodIn_of _ (by decide +kernel)) ggX0_cartHome_X0_at
set_option maxRecDepth 20000 in
theorem ggX0_cartHome_X0_add : GoodIn wsX0_cartHome wsX0_add := goodIn_r _ [17, 9, 10, 11, 7, 12, 13, 18, 19, 20, 21, 26] (by decide +kernel) (by decide +kernel)
set_option maxRecDepth 20000 in
theorem gX0_cartHome_X0_add : GoodIn wsX0_cartHome (wsV RX0 23 RX0 yX0_add wsX0_add) := goodIn_app (goodIn_of _ (by decide +kernel)) ggX0_cartHome_X0_add
set_option maxRecDepth 20000 in
theorem ggX0_cartHome_X0_poorestWidow : GoodIn wsX0_cartHome wsX0_poorestWidow := goodIn_r _ [25, 9, 10, 11, 7, 12, 13, 26] (by decide +kernel) (by decide +kernel)
set_option maxRecDepth 20000 in
theorem gX0_cartHome_X0_poorestWidow : GoodIn wsX0_cartHome (wsV RX0 84 RX0 yX0_poorestWidow wsX0_poorestWidow) := goodIn_app (goodIn_of _ (by decide +kernel)) ggX0_cartHome_X0_poorestWidow
theorem dX0_cartHome_0 : decode cX0_cartHome 0 = .ok (.aload_n 0, 1) := by decide +kernel
theorem dX0_cartHome_1 : decode cX0_cartHome 1 = .ok (.bipush 117, 2) := by decide +kernel
theorem dX0_cartHome_3 : decode cX0_cartHome 3 = .ok (.iload_n 1, 1) := by decide +kernel
theorem dX0_cartHome_4 : decode cX0_cartHome 4 = .ok (.iload_n 2, 1) := by decide +kernel
theorem dX0_cartHome_5 : decode cX0_cartHome 5 = .ok (.invokestatic 19, 3) := by decide +kernel
theorem dX0_cartHome_8 : decode cX0_cartHome 8 = .ok (.iadd, 1) := by decide +kernel
theorem dX0_cartHome_9 : decode cX0_cartHome 9 = .ok (.invokevirtual 30, 3) := by decide +kernel
theorem dX0_cartHome_12 : decode cX0_cartHome 12 = .ok (.iload_n 3, 1) := by decide +kernel
theorem dX0_cartHome_13 : decode cX0_cartHome 13 = .ok (.invokestatic 65, 3) := by decide +kernel
theorem dX0_cartHome_16 : decode cX0_cartHome 16 = .ok (.istore 4, 2) := by decide +kernel
theorem dX0_cartHome_18 : decode cX0_cartHome 18 = .ok (.iload 4, 2) := by decide +kernel
theorem dX0_cartHome_20 : decode cX0_cartHome 20 = .ok (.ifCond .ne 5, 3) := by decide +kernel
theorem dX0_cartHome_23 : decode cX0_cartHome 23 = .ok (.iconst 0, 1) := by decide +kernel
theorem dX0_cartHome_24 : decode cX0_cartHome 24 = .ok (.ireturn, 1) := by decide +kernel
theorem dX0_cartHome_25 : decode cX0_cartHome 25 = .ok (.aload_n 0, 1) := by decide +kernel
theorem dX0_cartHome_26 : decode cX0_cartHome 26 = .ok (.bipush 117, 2) := by decide +kernel
theorem dX0_cartHome_28 : decode cX0_cartHome 28 = .ok (.iload_n 1, 1) := by decide +kernel
theorem dX0_cartHome_29 : decode cX0_cartHome 29 = .ok (.iload_n 2, 1) := by decide +kernel
theorem dX0_cartHome_30 : decode cX0_cartHome 30 = .ok (.invokestatic 19, 3) := by decide +kernel
theorem dX0_cartHome_33 : decode cX0_cartHome 33 = .ok (.iadd, 1) := by decide +kernel
theorem dX0_cartHome_34 : decode cX0_cartHome 34 = .ok (.iload 4, 2) := by decide +kernel
theorem dX0_cartHome_36 : decode cX0_cartHome 36 = .ok (.ineg, 1) := by decide +kernel
theorem dX0_cartHome_37 : decode cX0_cartHome 37 = .ok (.invokevirtual 23, 3) := by decide +kernel
theorem dX0_cartHome_40 : decode cX0_cartHome 40 = .ok (.aload_n 0, 1) := by decide +kernel
theorem dX0_cartHome_41 : decode cX0_cartHome 41 = .ok (.bipush 15, 2) := by decide +kernel
theorem dX0_cartHome_43 : decode cX0_cartHome 43 = .ok (.iload_n 1, 1) := by decide +kernel
theorem dX0_cartHome_44 : decode cX0_cartHome 44 = .ok (.iadd, 1) := by decide +kernel
theorem dX0_cartHome_45 : decode cX0_cartHome 45 = .ok (.iload 4, 2) := by decide +kernel
theorem dX0_cartHome_47 : decode cX0_cartHome 47 = .ok (.invokevirtual 23, 3) := by decide +kernel
theorem dX0_cartHome_50 : decode cX0_cartHome 50 = .ok (.aload_n 0, 1) := by decide +kernel
theorem dX0_cartHome_51 : decode cX0_cartHome 51 = .ok (.iconst 5, 1) := by decide +kernel
theorem dX0_cartHome_52 : decode cX0_cartHome 52 = .ok (.iload_n 1, 1) := by decide +kernel
theorem dX0_cartHome_53 : decode cX0_cartHome 53 = .ok (.iadd, 1) := by decide +kernel
theorem dX0_cartHome_54 : decode cX0_cartHome 54 = .ok (.invokevirtual 30, 3) := by decide +kernel
theorem dX0_cartHome_57 : decode cX0_cartHome 57 = .ok (.iconst 1, 1) := by decide +kernel
theorem dX0_cartHome_58 : decode cX0_cartHome 58 = .ok (.if_icmp .ne 7, 3) := by decide +kernel
theorem dX0_cartHome_61 : decode cX0_cartHome 61 = .ok (.iconst (-1), 1) := by decide +kernel
theorem dX0_cartHome_62 : decode cX0_cartHome 62 = .ok (.goto 7, 3) := by decide +kernel
theorem dX0_cartHome_65 : decode cX0_cartHome 65 = .ok (.aload_n 0, 1) := by decide +kernel
theorem dX0_cartHome_66 : decode cX0_cartHome 66 = .ok (.invokevirtual 84, 3) := by decide +kernel
theorem dX0_cartHome_69 : decode cX0_cartHome 69 = .ok (.istore 5, 2) := by decide +kernel
theorem dX0_cartHome_71 : decode cX0_cartHome 71 = .ok (.iload 5, 2) := by decide +kernel
theorem dX0_cartHome_73 : decode cX0_cartHome 73 = .ok (.iconst (-1), 1) := by decide +kernel
theorem dX0_cartHome_74 : decode cX0_cartHome 74 = .ok (.if_icmp .eq 59, 3) := by decide +kernel
theorem dX0_cartHome_77 : decode cX0_cartHome 77 = .ok (.iload 4, 2) := by decide +kernel
theorem dX0_cartHome_79 : decode cX0_cartHome 79 = .ok (.aload_n 0, 1) := by decide +kernel
theorem dX0_cartHome_80 : decode cX0_cartHome 80 = .ok (.iconst 3, 1) := by decide +kernel
theorem dX0_cartHome_81 : decode cX0_cartHome 81 = .ok (.invokevirtual 30, 3) := by decide +kernel
theorem dX0_cartHome_84 : decode cX0_cartHome 84 = .ok (.imul, 1) := by decide +kernel
theorem dX0_cartHome_85 : decode cX0_cartHome 85 = .ok (.bipush 100, 2) := by decide +kernel
theorem dX0_cartHome_87 : decode cX0_cartHome 87 = .ok (.idiv, 1) := by decide +kernel
theorem dX0_cartHome_88 : decode cX0_cartHome 88 = .ok (.istore 6, 2) := by decide +kernel
theorem dX0_cartHome_90 : decode cX0_cartHome 90 = .ok (.aload_n 0, 1) := by decide +kernel
theorem dX0_cartHome_91 : decode cX0_cartHome 91 = .ok (.bipush 15, 2) := by decide +kernel
theorem dX0_cartHome_93 : decode cX0_cartHome 93 = .ok (.iload_n 1, 1) := by decide +kernel
theorem dX0_cartHome_94 : decode cX0_cartHome 94 = .ok (.iadd, 1) := by decide +kernel
theorem dX0_cartHome_95 : decode cX0_cartHome 95 = .ok (.iload 6, 2) := by decide +kernel
theorem dX0_cartHome_97 : decode cX0_cartHome 97 = .ok (.ineg, 1) := by decide +kernel
theorem dX0_cartHome_98 : decode cX0_cartHome 98 = .ok (.invokevirtual 23, 3) := by decide +kernel
theorem dX0_cartHome_101 : decode cX0_cartHome 101 = .ok (.aload_n 0, 1) := by decide +kernel
theorem dX0_cartHome_102 : decode cX0_cartHome 102 = .ok (.bipush 30, 2) := by decide +kernel
theorem dX0_cartHome_104 : decode cX0_cartHome 104 = .ok (.iload_n 1, 1) := by decide +kernel
theorem dX0_cartHome_105 : decode cX0_cartHome 105 = .ok (.iadd, 1) := by decide +kernel
theorem dX0_cartHome_106 : decode cX0_cartHome 106 = .ok (.iload 6, 2) := by decide +kernel
theorem dX0_cartHome_108 : decode cX0_cartHome 108 = .ok (.invokevirtual 23, 3) := by decide +kernel
theorem dX0_cartHome_111 : decode cX0_cartHome 111 = .ok (.aload_n 0, 1) := by decide +kernel
theorem dX0_cartHome_112 : decode cX0_cartHome 112 = .ok (.bipush 15, 2) := by decide +kernel
theorem dX0_cartHome_114 : decode cX0_cartHome 114 = .ok (.iload 5, 2) := by decide +kernel
theorem dX0_cartHome_116 : decode cX0_cartHome 116 = .ok (.iadd, 1) := by decide +kernel
theorem dX0_cartHome_117 : decode cX0_cartHome 117 = .ok (.iload 6, 2) := by decide +kernel
theorem dX0_cartHome_119 : decode cX0_cartHome 119 = .ok (.invokevirtual 23, 3) := by decide +kernel
theorem dX0_cartHome_122 : decode cX0_cartHome 122 = .ok (.aload_n 0, 1) := by decide +kernel
theorem dX0_cartHome_123 : decode cX0_cartHome 123 = .ok (.bipush 25, 2) := by decide +kernel
theorem dX0_cartHome_125 : decode cX0_cartHome 125 = .ok (.iload 5, 2) := by decide +kernel
theorem dX0_cartHome_127 : decode cX0_cartHome 127 = .ok (.iadd, 1) := by decide +kernel
theorem dX0_cartHome_128 : decode cX0_cartHome 128 = .ok (.iload 6, 2) := by decide +kernel
theorem dX0_cartHome_130 : decode cX0_cartHome 130 = .ok (.invokevirtual 23, 3) := by decide +kernel
theorem dX0_cartHome_133 : decode cX0_cartHome 133 = .ok (.iload 4, 2) := by decide +kernel
theorem dX0_cartHome_135 : decode cX0_cartHome 135 = .ok (.ireturn, 1) := by decide +kernel
set_option maxRecDepth 20000 in
theorem ggX0_poorestWidow_X0_at : GoodIn wsX0_poorestWidow wsX0_at := goodIn_r _ [5, 6, 7] (by decide +kernel) (by decide +kernel)
set_option maxRecDepth 20000 in
theorem gX0_poorestWidow_X0_at : GoodIn wsX0_poorestWidow (wsV RX0 30 RX0 yX0_at wsX0_at) := goodIn_app (goodIn_of _ (by decide +kernel)) ggX0_poorestWidow_X0_at
theorem dX0_poorestWidow_0 : decode cX0_poorestWidow 0 = .ok (.iconst (-1), 1) := by decide +kernel
theorem dX0_poorestWidow_1 : decode cX0_poorestWidow 1 = .ok (.istore_n 1, 1) := by decide +kernel
theorem dX0_poorestWidow_2 : decode cX0_poorestWidow 2 = .ok (.iconst 0, 1) := by decide +kernel
theorem dX0_poorestWidow_3 : decode cX0_poorestWidow 3 = .ok (.istore_n 2, 1) := by decide +kernel
theorem dX0_poorestWidow_4 : decode cX0_poorestWidow 4 = .ok (.iload_n 2, 1) := by decide +kernel
theorem dX0_poorestWidow_5 : decode cX0_poorestWidow 5 = .ok (.iconst 5, 1) := by decide +kernel
theorem dX0_poorestWidow_6 : decode cX0_poorestWidow 6 = .ok (.if_icmp .ge 46, 3) := by decide +kernel
theorem dX0_poorestWidow_9 : decode cX0_poorestWidow 9 = .ok (.aload_n 0, 1) := by decide +kernel
theorem dX0_poorestWidow_10 : decode cX0_poorestWidow 10 = .ok (.iconst 5, 1) := by decide +kernel
theorem dX0_poorestWidow_11 : decode cX0_poorestWidow 11 = .ok (.iload_n 2, 1) := by decide +kernel
theorem dX0_poorestWidow_12 : decode cX0_poorestWidow 12 = .ok (.iadd, 1) := by decide +kernel
theorem dX0_poorestWidow_13 : decode cX0_poorestWidow 13 = .ok (.invokevirtual 30, 3) := by decide +kernel
theorem dX0_poorestWidow_16 : decode cX0_poorestWidow 16 = .ok (.iconst 1, 1) := by decide +kernel
theorem dX0_poorestWidow_17 : decode cX0_poorestWidow 17 = .ok (.if_icmp .ne 29, 3) := by decide +kernel
theorem dX0_poorestWidow_20 : decode cX0_poorestWidow 20 = .ok (.iload_n 1, 1) := by decide +kernel
theorem dX0_poorestWidow_21 : decode cX0_poorestWidow 21 = .ok (.iconst (-1), 1) := by decide +kernel
theorem dX0_poorestWidow_22 : decode cX0_poorestWidow 22 = .ok (.if_icmp .eq 22, 3) := by decide +kernel
theorem dX0_poorestWidow_25 : decode cX0_poorestWidow 25 = .ok (.aload_n 0, 1) := by decide +kernel
theorem dX0_poorestWidow_26 : decode cX0_poorestWidow 26 = .ok (.bipush 15, 2) := by decide +kernel
theorem dX0_poorestWidow_28 : decode cX0_poorestWidow 28 = .ok (.iload_n 2, 1) := by decide +kernel
theorem dX0_poorestWidow_29 : decode cX0_poorestWidow 29 = .ok (.iadd, 1) := by decide +kernel
theorem dX0_poorestWidow_30 : decode cX0_poorestWidow 30 = .ok (.invokevirtual 30, 3) := by decide +kernel
theorem dX0_poorestWidow_33 : decode cX0_poorestWidow 33 = .ok (.aload_n 0, 1) := by decide +kernel
theorem dX0_poorestWidow_34 : decode cX0_poorestWidow 34 = .ok (.bipush 15, 2) := by decide +kernel
theorem dX0_poorestWidow_36 : decode cX0_poorestWidow 36 = .ok (.iload_n 1, 1) := by decide +kernel
theorem dX0_poorestWidow_37 : decode cX0_poorestWidow 37 = .ok (.iadd, 1) := by decide +kernel
theorem dX0_poorestWidow_38 : decode cX0_poorestWidow 38 = .ok (.invokevirtual 30, 3) := by decide +kernel
theorem dX0_poorestWidow_41 : decode cX0_poorestWidow 41 = .ok (.if_icmp .ge 5, 3) := by decide +kernel
theorem dX0_poorestWidow_44 : decode cX0_poorestWidow 44 = .ok (.iload_n 2, 1) := by decide +kernel
theorem dX0_poorestWidow_45 : decode cX0_poorestWidow 45 = .ok (.istore_n 1, 1) := by decide +kernel
theorem dX0_poorestWidow_46 : decode cX0_poorestWidow 46 = .ok (.iinc 2 1, 3) := by decide +kernel
theorem dX0_poorestWidow_49 : decode cX0_poorestWidow 49 = .ok (.goto (-45), 3) := by decide +kernel
theorem dX0_poorestWidow_52 : decode cX0_poorestWidow 52 = .ok (.iload_n 1, 1) := by decide +kernel
theorem dX0_poorestWidow_53 : decode cX0_poorestWidow 53 = .ok (.ireturn, 1) := by decide +kernel
set_option maxRecDepth 20000 in
theorem ggX0_burn_X0_at : GoodIn wsX0_burn wsX0_at := goodIn_r _ [9, 10, 19] (by decide +kernel) (by decide +kernel)
set_option maxRecDepth 20000 in
theorem gX0_burn_X0_at : GoodIn wsX0_burn (wsV RX0 30 RX0 yX0_at wsX0_at) := goodIn_app (goodIn_of _ (by decide +kernel)) ggX0_burn_X0_at
set_option maxRecDepth 20000 in
theorem ggX0_burn_X0_add : GoodIn wsX0_burn wsX0_add := goodIn_r _ [14, 5, 6, 7, 8, 9, 10, 15, 16, 17, 18, 19] (by decide +kernel) (by decide +kernel)
set_option maxRecDepth 20000 in
theorem gX0_burn_X0_add : GoodIn wsX0_burn (wsV RX0 23 RX0 yX0_add wsX0_add) := goodIn_app (goodIn_of _ (by decide +kernel)) ggX0_burn_X0_add
theorem dX0_burn_0 : decode cX0_burn 0 = .ok (.iconst 0, 1) := by decide +kernel
theorem dX0_burn_1 : decode cX0_burn 1 = .ok (.istore_n 1, 1) := by decide +kernel
theorem dX0_burn_2 : decode cX0_burn 2 = .ok (.iload_n 1, 1) := by decide +kernel
theorem dX0_burn_3 : decode cX0_burn 3 = .ok (.iconst 5, 1) := by decide +kernel
theorem dX0_burn_4 : decode cX0_burn 4 = .ok (.if_icmp .ge 58, 3) := by decide +kernel
theorem dX0_burn_7 : decode cX0_burn 7 = .ok (.aload_n 0, 1) := by decide +kernel
theorem dX0_burn_8 : decode cX0_burn 8 = .ok (.iconst 4, 1) := by decide +kernel
theorem dX0_burn_9 : decode cX0_burn 9 = .ok (.invokevirtual 30, 3) := by decide +kernel
theorem dX0_burn_12 : decode cX0_burn 12 = .ok (.istore_n 2, 1) := by decide +kernel
theorem dX0_burn_13 : decode cX0_burn 13 = .ok (.iload_n 2, 1) := by decide +kernel
theorem dX0_burn_14 : decode cX0_burn 14 = .ok (.aload_n 0, 1) := by decide +kernel
theorem dX0_burn_15 : decode cX0_burn 15 = .ok (.bipush 15, 2) := by decide +kernel
theorem dX0_burn_17 : decode cX0_burn 17 = .ok (.iload_n 1, 1) := by decide +kernel
theorem dX0_burn_18 : decode cX0_burn 18 = .ok (.iadd, 1) := by decide +kernel
theorem dX0_burn_19 : decode cX0_burn 19 = .ok (.invokevirtual 30, 3) := by decide +kernel
theorem dX0_burn_22 : decode cX0_burn 22 = .ok (.invokestatic 65, 3) := by decide +kernel
theorem dX0_burn_25 : decode cX0_burn 25 = .ok (.istore_n 3, 1) := by decide +kernel
theorem dX0_burn_26 : decode cX0_burn 26 = .ok (.aload_n 0, 1) := by decide +kernel
theorem dX0_burn_27 : decode cX0_burn 27 = .ok (.bipush 15, 2) := by decide +kernel
theorem dX0_burn_29 : decode cX0_burn 29 = .ok (.iload_n 1, 1) := by decide +kernel
theorem dX0_burn_30 : decode cX0_burn 30 = .ok (.iadd, 1) := by decide +kernel
theorem dX0_burn_31 : decode cX0_burn 31 = .ok (.iload_n 3, 1) := by decide +kernel
theorem dX0_burn_32 : decode cX0_burn 32 = .ok (.ineg, 1) := by decide +kernel
theorem dX0_burn_33 : decode cX0_burn 33 = .ok (.invokevirtual 23, 3) := by decide +kernel
theorem dX0_burn_36 : decode cX0_burn 36 = .ok (.aload_n 0, 1) := by decide +kernel
theorem dX0_burn_37 : decode cX0_burn 37 = .ok (.bipush 35, 2) := by decide +kernel
theorem dX0_burn_39 : decode cX0_burn 39 = .ok (.iload_n 1, 1) := by decide +kernel
theorem dX0_burn_40 : decode cX0_burn 40 = .ok (.iadd, 1) := by decide +kernel
theorem dX0_burn_41 : decode cX0_burn 41 = .ok (.iload_n 3, 1) := by decide +kernel
theorem dX0_burn_42 : decode cX0_burn 42 = .ok (.invokevirtual 23, 3) := by decide +kernel
theorem dX0_burn_45 : decode cX0_burn 45 = .ok (.aload_n 0, 1) := by decide +kernel
theorem dX0_burn_46 : decode cX0_burn 46 = .ok (.bipush 40, 2) := by decide +kernel
theorem dX0_burn_48 : decode cX0_burn 48 = .ok (.iload_n 1, 1) := by decide +kernel
theorem dX0_burn_49 : decode cX0_burn 49 = .ok (.iadd, 1) := by decide +kernel
theorem dX0_burn_50 : decode cX0_burn 50 = .ok (.iload_n 2, 1) := by decide +kernel
theorem dX0_burn_51 : decode cX0_burn 51 = .ok (.iload_n 3, 1) := by decide +kernel
theorem dX0_burn_52 : decode cX0_burn 52 = .ok (.isub, 1) := by decide +kernel
theorem dX0_burn_53 : decode cX0_burn 53 = .ok (.invokevirtual 23, 3) := by decide +kernel
theorem dX0_burn_56 : decode cX0_burn 56 = .ok (.iinc 1 1, 3) := by decide +kernel
theorem dX0_burn_59 : decode cX0_burn 59 = .ok (.goto (-57), 3) := by decide +kernel
theorem dX0_burn_62 : decode cX0_burn 62 = .ok (.return_, 1) := by decide +kernel
set_option maxRecDepth 20000 in
theorem ggX0_turvesOn_X0_at : GoodIn wsX0_turvesOn wsX0_at := goodIn_r _ [5, 6, 7] (by decide +kernel) (by decide +kernel)
set_option maxRecDepth 20000 in
theorem gX0_turvesOn_X0_at : GoodIn wsX0_turvesOn (wsV RX0 30 RX0 yX0_at wsX0_at) := goodIn_app (goodIn_of _ (by decide +kernel)) ggX0_turvesOn_X0_at
theorem dX0_turvesOn_0 : decode cX0_turvesOn 0 = .ok (.iconst 0, 1) := by decide +kernel
theorem dX0_turvesOn_1 : decode cX0_turvesOn 1 = .ok (.istore 4, 2) := by decide +kernel
theorem dX0_turvesOn_3 : decode cX0_turvesOn 3 = .ok (.iconst 0, 1) := by decide +kernel
theorem dX0_turvesOn_4 : decode cX0_turvesOn 4 = .ok (.istore 5, 2) := by decide +kernel
theorem dX0_turvesOn_6 : decode cX0_turvesOn 6 = .ok (.iload 5, 2) := by decide +kernel
theorem dX0_turvesOn_8 : decode cX0_turvesOn 8 = .ok (.iload_n 3, 1) := by decide +kernel
theorem dX0_turvesOn_9 : decode cX0_turvesOn 9 = .ok (.if_icmp .ge 51, 3) := by decide +kernel
theorem dX0_turvesOn_12 : decode cX0_turvesOn 12 = .ok (.iload_n 1, 1) := by decide +kernel
theorem dX0_turvesOn_13 : decode cX0_turvesOn 13 = .ok (.iload 5, 2) := by decide +kernel
theorem dX0_turvesOn_15 : decode cX0_turvesOn 15 = .ok (.iload_n 2, 1) := by decide +kernel
theorem dX0_turvesOn_16 : decode cX0_turvesOn 16 = .ok (.imul, 1) := by decide +kernel
theorem dX0_turvesOn_17 : decode cX0_turvesOn 17 = .ok (.iadd, 1) := by decide +kernel
theorem dX0_turvesOn_18 : decode cX0_turvesOn 18 = .ok (.istore 6, 2) := by decide +kernel
theorem dX0_turvesOn_20 : decode cX0_turvesOn 20 = .ok (.iload 4, 2) := by decide +kernel
theorem dX0_turvesOn_22 : decode cX0_turvesOn 22 = .ok (.aload_n 0, 1) := by decide +kernel
theorem dX0_turvesOn_23 : decode cX0_turvesOn 23 = .ok (.bipush 77, 2) := by decide +kernel
theorem dX0_turvesOn_25 : decode cX0_turvesOn 25 = .ok (.iload 6, 2) := by decide +kernel
theorem dX0_turvesOn_27 : decode cX0_turvesOn 27 = .ok (.iadd, 1) := by decide +kernel
theorem dX0_turvesOn_28 : decode cX0_turvesOn 28 = .ok (.invokevirtual 30, 3) := by decide +kernel
theorem dX0_turvesOn_31 : decode cX0_turvesOn 31 = .ok (.aload_n 0, 1) := by decide +kernel
theorem dX0_turvesOn_32 : decode cX0_turvesOn 32 = .ok (.bipush 97, 2) := by decide +kernel
theorem dX0_turvesOn_34 : decode cX0_turvesOn 34 = .ok (.iload 6, 2) := by decide +kernel
theorem dX0_turvesOn_36 : decode cX0_turvesOn 36 = .ok (.iadd, 1) := by decide +kernel
theorem dX0_turvesOn_37 : decode cX0_turvesOn 37 = .ok (.invokevirtual 30, 3) := by decide +kernel
theorem dX0_turvesOn_40 : decode cX0_turvesOn 40 = .ok (.iadd, 1) := by decide +kernel
theorem dX0_turvesOn_41 : decode cX0_turvesOn 41 = .ok (.aload_n 0, 1) := by decide +kernel
theorem dX0_turvesOn_42 : decode cX0_turvesOn 42 = .ok (.bipush 117, 2) := by decide +kernel
theorem dX0_turvesOn_44 : decode cX0_turvesOn 44 = .ok (.iload 6, 2) := by decide +kernel
theorem dX0_turvesOn_46 : decode cX0_turvesOn 46 = .ok (.iadd, 1) := by decide +kernel
theorem dX0_turvesOn_47 : decode cX0_turvesOn 47 = .ok (.invokevirtual 30, 3) := by decide +kernel
theorem dX0_turvesOn_50 : decode cX0_turvesOn 50 = .ok (.iadd, 1) := by decide +kernel
theorem dX0_turvesOn_51 : decode cX0_turvesOn 51 = .ok (.iadd, 1) := by decide +kernel
theorem dX0_turvesOn_52 : decode cX0_turvesOn 52 = .ok (.istore 4, 2) := by decide +kernel
theorem dX0_turvesOn_54 : decode cX0_turvesOn 54 = .ok (.iinc 5 1, 3) := by decide +kernel
theorem dX0_turvesOn_57 : decode cX0_turvesOn 57 = .ok (.goto (-51), 3) := by decide +kernel
theorem dX0_turvesOn_60 : decode cX0_turvesOn 60 = .ok (.iload 4, 2) := by decide +kernel
theorem dX0_turvesOn_62 : decode cX0_turvesOn 62 = .ok (.ireturn, 1) := by decide +kernel
set_option maxRecDepth 20000 in
theorem ggX0_turvesOnBanks_X0_turvesOn : GoodIn wsX0_turvesOnBanks wsX0_turvesOn := goodIn_r _ [5, 6, 7, 8, 4, 9, 10, 11] (by decide +kernel) (by decide +kernel)
set_option maxRecDepth 20000 in
theorem gX0_turvesOnBanks_X0_turvesOn : GoodIn wsX0_turvesOnBanks (wsV RX0 68 RX0 yX0_turvesOn wsX0_turvesOn) := goodIn_app (goodIn_of _ (by decide +kernel)) ggX0_turvesOnBanks_X0_turvesOn
theorem dX0_turvesOnBanks_0 : decode cX0_turvesOnBanks 0 = .ok (.aload_n 0, 1) := by decide +kernel
theorem dX0_turvesOnBanks_1 : decode cX0_turvesOnBanks 1 = .ok (.iconst 0, 1) := by decide +kernel
theorem dX0_turvesOnBanks_2 : decode cX0_turvesOnBanks 2 = .ok (.iconst 1, 1) := by decide +kernel
theorem dX0_turvesOnBanks_3 : decode cX0_turvesOnBanks 3 = .ok (.bipush 20, 2) := by decide +kernel
theorem dX0_turvesOnBanks_5 : decode cX0_turvesOnBanks 5 = .ok (.invokevirtual 68, 3) := by decide +kernel
theorem dX0_turvesOnBanks_8 : decode cX0_turvesOnBanks 8 = .ok (.ireturn, 1) := by decide +kernel
set_option maxRecDepth 20000 in
theorem ggX0_shortBy_X0_at : GoodIn wsX0_shortBy wsX0_at := goodIn_r _ [9, 10, 11] (by decide +kernel) (by decide +kernel)
set_option maxRecDepth 20000 in
theorem gX0_shortBy_X0_at : GoodIn wsX0_shortBy (wsV RX0 30 RX0 yX0_at wsX0_at) := goodIn_app (goodIn_of _ (by decide +kernel)) ggX0_shortBy_X0_at
theorem dX0_shortBy_0 : decode cX0_shortBy 0 = .ok (.iconst 0, 1) := by decide +kernel
theorem dX0_shortBy_1 : decode cX0_shortBy 1 = .ok (.aload_n 0, 1) := by decide +kernel
theorem dX0_shortBy_2 : decode cX0_shortBy 2 = .ok (.bipush 10, 2) := by decide +kernel
theorem dX0_shortBy_4 : decode cX0_shortBy 4 = .ok (.iload_n 1, 1) := by decide +kernel
theorem dX0_shortBy_5 : decode cX0_shortBy 5 = .ok (.iadd, 1) := by decide +kernel
theorem dX0_shortBy_6 : decode cX0_shortBy 6 = .ok (.invokevirtual 30, 3) := by decide +kernel
theorem dX0_shortBy_9 : decode cX0_shortBy 9 = .ok (.aload_n 0, 1) := by decide +kernel
theorem dX0_shortBy_10 : decode cX0_shortBy 10 = .ok (.bipush 15, 2) := by decide +kernel
theorem dX0_shortBy_12 : decode cX0_shortBy 12 = .ok (.iload_n 1, 1) := by decide +kernel
theorem dX0_shortBy_13 : decode cX0_shortBy 13 = .ok (.iadd, 1) := by decide +kernel
theorem dX0_shortBy_14 : decode cX0_shortBy 14 = .ok (.invokevirtual 30, 3) := by decide +kernel
theorem dX0_shortBy_17 : decode cX0_shortBy 17 = .ok (.isub, 1) := by decide +kernel
theorem dX0_shortBy_18 : decode cX0_shortBy 18 = .ok (.invokestatic 87, 3) := by decide +kernel
theorem dX0_shortBy_21 : decode cX0_shortBy 21 = .ok (.ireturn, 1) := by decide +kernel
set_option maxRecDepth 20000 in
theorem ggX0_willBeShortBy_X0_at : GoodIn wsX0_willBeShortBy wsX0_at := goodIn_r _ [9, 10, 18] (by decide +kernel) (by decide +kernel)
set_option maxRecDepth 20000 in
theorem gX0_willBeShortBy_X0_at : GoodIn wsX0_willBeShortBy (wsV RX0 30 RX0 yX0_at wsX0_at) := goodIn_app (goodIn_of _ (by decide +kernel)) ggX0_willBeShortBy_X0_at
set_option maxRecDepth 20000 in
theorem ggX0_willBeShortBy_X0_plotOf : GoodIn wsX0_willBeShortBy wsX0_plotOf := goodIn_r _ [13] (by decide +kernel) (by decide +kernel)
set_option maxRecDepth 20000 in
theorem gX0_willBeShortBy_X0_plotOf : GoodIn wsX0_willBeShortBy (va_wsS RX0 19 yX0_plotOf wsX0_plotOf) := goodIn_app (goodIn_of _ (by decide +kernel)) ggX0_willBeShortBy_X0_plotOf
set_option maxRecDepth 20000 in
theorem ggX0_willBeShortBy_X0_turvesOn : GoodIn wsX0_willBeShortBy wsX0_turvesOn := goodIn_r _ [17, 5, 6, 7, 8, 9, 10, 18] (by decide +kernel) (by decide +kernel)
set_option maxRecDepth 20000 in
theorem gX0_willBeShortBy_X0_turvesOn : GoodIn wsX0_willBeShortBy (wsV RX0 68 RX0 yX0_turvesOn wsX0_turvesOn) := goodIn_app (goodIn_of _ (by decide +kernel)) ggX0_willBeShortBy_X0_turvesOn
theorem dX0_willBeShortBy_0 : decode cX0_willBeShortBy 0 = .ok (.iconst 0, 1) := by decide +kernel
theorem dX0_willBeShortBy_1 : decode cX0_willBeShortBy 1 = .ok (.aload_n 0, 1) := by decide +kernel
theorem dX0_willBeShortBy_2 : decode cX0_willBeShortBy 2 = .ok (.bipush 10, 2) := by decide +kernel
theorem dX0_willBeShortBy_4 : decode cX0_willBeShortBy 4 = .ok (.iload_n 1, 1) := by decide +kernel
theorem dX0_willBeShortBy_5 : decode cX0_willBeShortBy 5 = .ok (.iadd, 1) := by decide +kernel
theorem dX0_willBeShortBy_6 : decode cX0_willBeShortBy 6 = .ok (.invokevirtual 30, 3) := by decide +kernel
theorem dX0_willBeShortBy_9 : decode cX0_willBeShortBy 9 = .ok (.aload_n 0, 1) := by decide +kernel
theorem dX0_willBeShortBy_10 : decode cX0_willBeShortBy 10 = .ok (.bipush 15, 2) := by decide +kernel
theorem dX0_willBeShortBy_12 : decode cX0_willBeShortBy 12 = .ok (.iload_n 1, 1) := by decide +kernel
theorem dX0_willBeShortBy_13 : decode cX0_willBeShortBy 13 = .ok (.iadd, 1) := by decide +kernel
theorem dX0_willBeShortBy_14 : decode cX0_willBeShortBy 14 = .ok (.invokevirtual 30, 3) := by decide +kernel
theorem dX0_willBeShortBy_17 : decode cX0_willBeShortBy 17 = .ok (.isub, 1) := by decide +kernel
theorem dX0_willBeShortBy_18 : decode cX0_willBeShortBy 18 = .ok (.aload_n 0, 1) := by decide +kernel
theorem dX0_willBeShortBy_19 : decode cX0_willBeShortBy 19 = .ok (.iload_n 1, 1) := by decide +kernel
theorem dX0_willBeShortBy_20 : decode cX0_willBeShortBy 20 = .ok (.iconst 0, 1) := by decide +kernel
theorem dX0_willBeShortBy_21 : decode cX0_willBeShortBy 21 = .ok (.invokestatic 19, 3) := by decide +kernel
theorem dX0_willBeShortBy_24 : decode cX0_willBeShortBy 24 = .ok (.iconst 1, 1) := by decide +kernel
theorem dX0_willBeShortBy_25 : decode cX0_willBeShortBy 25 = .ok (.iconst 4, 1) := by decide +kernel
theorem dX0_willBeShortBy_26 : decode cX0_willBeShortBy 26 = .ok (.invokevirtual 68, 3) := by decide +kernel
theorem dX0_willBeShortBy_29 : decode cX0_willBeShortBy 29 = .ok (.isub, 1) := by decide +kernel
theorem dX0_willBeShortBy_30 : decode cX0_willBeShortBy 30 = .ok (.invokestatic 87, 3) := by decide +kernel
theorem dX0_willBeShortBy_33 : decode cX0_willBeShortBy 33 = .ok (.ireturn, 1) := by decide +kernel
set_option maxRecDepth 20000 in
theorem ggX0_willBeShortByTheBook_X0_at : GoodIn wsX0_willBeShortByTheBook wsX0_at := goodIn_r _ [9, 10, 11] (by decide +kernel) (by decide +kernel)
set_option maxRecDepth 20000 in
theorem gX0_willBeShortByTheBook_X0_at : GoodIn wsX0_willBeShortByTheBook (wsV RX0 30 RX0 yX0_at wsX0_at) := goodIn_app (goodIn_of _ (by decide +kernel)) ggX0_willBeShortByTheBook_X0_at
theorem dX0_willBeShortByTheBook_0 : decode cX0_willBeShortByTheBook 0 = .ok (.aload_n 0, 1) := by decide +kernel
theorem dX0_willBeShortByTheBook_1 : decode cX0_willBeShortByTheBook 1 = .ok (.bipush 20, 2) := by decide +kernel
theorem dX0_willBeShortByTheBook_3 : decode cX0_willBeShortByTheBook 3 = .ok (.iload_n 1, 1) := by decide +kernel
theorem dX0_willBeShortByTheBook_4 : decode cX0_willBeShortByTheBook 4 = .ok (.iadd, 1) := by decide +kernel
theorem dX0_willBeShortByTheBook_5 : decode cX0_willBeShortByTheBook 5 = .ok (.invokevirtual 30, 3) := by decide +kernel
theorem dX0_willBeShortByTheBook_8 : decode cX0_willBeShortByTheBook 8 = .ok (.aload_n 0, 1) := by decide +kernel
theorem dX0_willBeShortByTheBook_9 : decode cX0_willBeShortByTheBook 9 = .ok (.bipush 25, 2) := by decide +kernel
theorem dX0_willBeShortByTheBook_11 : decode cX0_willBeShortByTheBook 11 = .ok (.iload_n 1, 1) := by decide +kernel
theorem dX0_willBeShortByTheBook_12 : decode cX0_willBeShortByTheBook 12 = .ok (.iadd, 1) := by decide +kernel
theorem dX0_willBeShortByTheBook_13 : decode cX0_willBeShortByTheBook 13 = .ok (.invokevirtual 30, 3) := by decide +kernel
theorem dX0_willBeShortByTheBook_16 : decode cX0_willBeShortByTheBook 16 = .ok (.iadd, 1) := by decide +kernel
theorem dX0_willBeShortByTheBook_17 : decode cX0_willBeShortByTheBook 17 = .ok (.istore_n 2, 1) := by decide +kernel
theorem dX0_willBeShortByTheBook_18 : decode cX0_willBeShortByTheBook 18 = .ok (.aload_n 0, 1) := by decide +kernel
theorem dX0_willBeShortByTheBook_19 : decode cX0_willBeShortByTheBook 19 = .ok (.bipush 30, 2) := by decide +kernel
theorem dX0_willBeShortByTheBook_21 : decode cX0_willBeShortByTheBook 21 = .ok (.iload_n 1, 1) := by decide +kernel
theorem dX0_willBeShortByTheBook_22 : decode cX0_willBeShortByTheBook 22 = .ok (.iadd, 1) := by decide +kernel
theorem dX0_willBeShortByTheBook_23 : decode cX0_willBeShortByTheBook 23 = .ok (.invokevirtual 30, 3) := by decide +kernel
theorem dX0_willBeShortByTheBook_26 : decode cX0_willBeShortByTheBook 26 = .ok (.aload_n 0, 1) := by decide +kernel
theorem dX0_willBeShortByTheBook_27 : decode cX0_willBeShortByTheBook 27 = .ok (.bipush 35, 2) := by decide +kernel
theorem dX0_willBeShortByTheBook_29 : decode cX0_willBeShortByTheBook 29 = .ok (.iload_n 1, 1) := by decide +kernel
theorem dX0_willBeShortByTheBook_30 : decode cX0_willBeShortByTheBook 30 = .ok (.iadd, 1) := by decide +kernel
theorem dX0_willBeShortByTheBook_31 : decode cX0_willBeShortByTheBook 31 = .ok (.invokevirtual 30, 3) := by decide +kernel
theorem dX0_willBeShortByTheBook_34 : decode cX0_willBeShortByTheBook 34 = .ok (.iadd, 1) := by decide +kernel
theorem dX0_willBeShortByTheBook_35 : decode cX0_willBeShortByTheBook 35 = .ok (.istore_n 3, 1) := by decide +kernel
theorem dX0_willBeShortByTheBook_36 : decode cX0_willBeShortByTheBook 36 = .ok (.iconst 0, 1) := by decide +kernel
theorem dX0_willBeShortByTheBook_37 : decode cX0_willBeShortByTheBook 37 = .ok (.aload_n 0, 1) := by decide +kernel
theorem dX0_willBeShortByTheBook_38 : decode cX0_willBeShortByTheBook 38 = .ok (.bipush 10, 2) := by decide +kernel
theorem dX0_willBeShortByTheBook_40 : decode cX0_willBeShortByTheBook 40 = .ok (.iload_n 1, 1) := by decide +kernel
theorem dX0_willBeShortByTheBook_41 : decode cX0_willBeShortByTheBook 41 = .ok (.iadd, 1) := by decide +kernel
theorem dX0_willBeShortByTheBook_42 : decode cX0_willBeShortByTheBook 42 = .ok (.invokevirtual 30, 3) := by decide +kernel
theorem dX0_willBeShortByTheBook_45 : decode cX0_willBeShortByTheBook 45 = .ok (.iload_n 2, 1) := by decide +kernel
theorem dX0_willBeShortByTheBook_46 : decode cX0_willBeShortByTheBook 46 = .ok (.iload_n 3, 1) := by decide +kernel
theorem dX0_willBeShortByTheBook_47 : decode cX0_willBeShortByTheBook 47 = .ok (.isub, 1) := by decide +kernel
theorem dX0_willBeShortByTheBook_48 : decode cX0_willBeShortByTheBook 48 = .ok (.isub, 1) := by decide +kernel
theorem dX0_willBeShortByTheBook_49 : decode cX0_willBeShortByTheBook 49 = .ok (.invokestatic 87, 3) := by decide +kernel
theorem dX0_willBeShortByTheBook_52 : decode cX0_willBeShortByTheBook 52 = .ok (.ireturn, 1) := by decide +kernel
set_option maxRecDepth 20000 in
theorem ggX0_hearthsShort_X0_shortBy : GoodIn wsX0_hearthsShort wsX0_shortBy := goodIn_r _ [5, 6, 7, 8, 9, 10, 11, 12, 4, 13, 14, 15] (by decide +kernel) (by decide +kernel)
set_option maxRecDepth 20000 in
theorem gX0_hearthsShort_X0_shortBy : GoodIn wsX0_hearthsShort (wsV RX0 90 RX0 yX0_shortBy wsX0_shortBy) := goodIn_app (goodIn_of _ (by decide +kernel)) ggX0_hearthsShort_X0_shortBy
theorem dX0_hearthsShort_0 : decode cX0_hearthsShort 0 = .ok (.iconst 0, 1) := by decide +kernel
theorem dX0_hearthsShort_1 : decode cX0_hearthsShort 1 = .ok (.istore_n 1, 1) := by decide +kernel
theorem dX0_hearthsShort_2 : decode cX0_hearthsShort 2 = .ok (.iconst 0, 1) := by decide +kernel
theorem dX0_hearthsShort_3 : decode cX0_hearthsShort 3 = .ok (.istore_n 2, 1) := by decide +kernel
theorem dX0_hearthsShort_4 : decode cX0_hearthsShort 4 = .ok (.iload_n 2, 1) := by decide +kernel
theorem dX0_hearthsShort_5 : decode cX0_hearthsShort 5 = .ok (.iconst 5, 1) := by decide +kernel
theorem dX0_hearthsShort_6 : decode cX0_hearthsShort 6 = .ok (.if_icmp .ge 25, 3) := by decide +kernel
theorem dX0_hearthsShort_9 : decode cX0_hearthsShort 9 = .ok (.iload_n 1, 1) := by decide +kernel
theorem dX0_hearthsShort_10 : decode cX0_hearthsShort 10 = .ok (.aload_n 0, 1) := by decide +kernel
theorem dX0_hearthsShort_11 : decode cX0_hearthsShort 11 = .ok (.iload_n 2, 1) := by decide +kernel
theorem dX0_hearthsShort_12 : decode cX0_hearthsShort 12 = .ok (.invokevirtual 90, 3) := by decide +kernel
theorem dX0_hearthsShort_15 : decode cX0_hearthsShort 15 = .ok (.ifCond .le 7, 3) := by decide +kernel
theorem dX0_hearthsShort_18 : decode cX0_hearthsShort 18 = .ok (.iconst 1, 1) := by decide +kernel
theorem dX0_hearthsShort_19 : decode cX0_hearthsShort 19 = .ok (.goto 4, 3) := by decide +kernel
theorem dX0_hearthsShort_22 : decode cX0_hearthsShort 22 = .ok (.iconst 0, 1) := by decide +kernel
theorem dX0_hearthsShort_23 : decode cX0_hearthsShort 23 = .ok (.iadd, 1) := by decide +kernel
theorem dX0_hearthsShort_24 : decode cX0_hearthsShort 24 = .ok (.istore_n 1, 1) := by decide +kernel
theorem dX0_hearthsShort_25 : decode cX0_hearthsShort 25 = .ok (.iinc 2 1, 3) := by decide +kernel
theorem dX0_hearthsShort_28 : decode cX0_hearthsShort 28 = .ok (.goto (-24), 3) := by decide +kernel
theorem dX0_hearthsShort_31 : decode cX0_hearthsShort 31 = .ok (.iload_n 1, 1) := by decide +kernel
theorem dX0_hearthsShort_32 : decode cX0_hearthsShort 32 = .ok (.ireturn, 1) := by decide +kernel
set_option maxRecDepth 20000 in
theorem ggX0_hearthsThatWillBeShort_X0_willBeShortBy : GoodIn wsX0_hearthsThatWillBeShort wsX0_willBeShortBy := goodIn_r _ [5, 6, 7, 8, 9, 10, 11, 12, 4, 13, 14, 15, 16, 17, 18, 19, 20, 21, 22] (by decide +kernel) (by decide +kernel)
set_option maxRecDepth 20000 in
theorem gX0_hearthsThatWillBeShort_X0_willBeShortBy : GoodIn wsX0_hearthsThatWillBeShort (wsV RX0 93 RX0 yX0_willBeShortBy wsX0_willBeShortBy) := goodIn_app (goodIn_of _ (by decide +kernel)) ggX0_hearthsThatWillBeShort_X0_willBeShortBy
theorem dX0_hearthsThatWillBeShort_0 : decode cX0_hearthsThatWillBeShort 0 = .ok (.iconst 0, 1) := by decide +kernel
theorem dX0_hearthsThatWillBeShort_1 : decode cX0_hearthsThatWillBeShort 1 = .ok (.istore_n 1, 1) := by decide +kernel
theorem dX0_hearthsThatWillBeShort_2 : decode cX0_hearthsThatWillBeShort 2 = .ok (.iconst 0, 1) := by decide +kernel
theorem dX0_hearthsThatWillBeShort_3 : decode cX0_hearthsThatWillBeShort 3 = .ok (.istore_n 2, 1) := by decide +kernel
theorem dX0_hearthsThatWillBeShort_4 : decode cX0_hearthsThatWillBeShort 4 = .ok (.iload_n 2, 1) := by decide +kernel
theorem dX0_hearthsThatWillBeShort_5 : decode cX0_hearthsThatWillBeShort 5 = .ok (.iconst 5, 1) := by decide +kernel
theorem dX0_hearthsThatWillBeShort_6 : decode cX0_hearthsThatWillBeShort 6 = .ok (.if_icmp .ge 25, 3) := by decide +kernel
theorem dX0_hearthsThatWillBeShort_9 : decode cX0_hearthsThatWillBeShort 9 = .ok (.iload_n 1, 1) := by decide +kernel
theorem dX0_hearthsThatWillBeShort_10 : decode cX0_hearthsThatWillBeShort 10 = .ok (.aload_n 0, 1) := by decide +kernel
theorem dX0_hearthsThatWillBeShort_11 : decode cX0_hearthsThatWillBeShort 11 = .ok (.iload_n 2, 1) := by decide +kernel
theorem dX0_hearthsThatWillBeShort_12 : decode cX0_hearthsThatWillBeShort 12 = .ok (.invokevirtual 93, 3) := by decide +kernel
theorem dX0_hearthsThatWillBeShort_15 : decode cX0_hearthsThatWillBeShort 15 = .ok (.ifCond .le 7, 3) := by decide +kernel
theorem dX0_hearthsThatWillBeShort_18 : decode cX0_hearthsThatWillBeShort 18 = .ok (.iconst 1, 1) := by decide +kernel
theorem dX0_hearthsThatWillBeShort_19 : decode cX0_hearthsThatWillBeShort 19 = .ok (.goto 4, 3) := by decide +kernel
theorem dX0_hearthsThatWillBeShort_22 : decode cX0_hearthsThatWillBeShort 22 = .ok (.iconst 0, 1) := by decide +kernel
theorem dX0_hearthsThatWillBeShort_23 : decode cX0_hearthsThatWillBeShort 23 = .ok (.iadd, 1) := by decide +kernel
theorem dX0_hearthsThatWillBeShort_24 : decode cX0_hearthsThatWillBeShort 24 = .ok (.istore_n 1, 1) := by decide +kernel
theorem dX0_hearthsThatWillBeShort_25 : decode cX0_hearthsThatWillBeShort 25 = .ok (.iinc 2 1, 3) := by decide +kernel
theorem dX0_hearthsThatWillBeShort_28 : decode cX0_hearthsThatWillBeShort 28 = .ok (.goto (-24), 3) := by decide +kernel
theorem dX0_hearthsThatWillBeShort_31 : decode cX0_hearthsThatWillBeShort 31 = .ok (.iload_n 1, 1) := by decide +kernel
theorem dX0_hearthsThatWillBeShort_32 : decode cX0_hearthsThatWillBeShort 32 = .ok (.ireturn, 1) := by decide +kernel
set_option maxRecDepth 20000 in
theorem ggX0_ofHearth_X0_at : GoodIn wsX0_ofHearth wsX0_at := goodIn_r _ [5, 6, 30] (by decide +kernel) (by decide +kernel)
set_option maxRecDepth 20000 in
theorem gX0_ofHearth_X0_at : GoodIn wsX0_ofHearth (wsV RX0 30 RX0 yX0_at wsX0_at) := goodIn_app (goodIn_of _ (by decide +kernel)) ggX0_ofHearth_X0_at
set_option maxRecDepth 20000 in
theorem ggX0_ofHearth_X0_plotOf : GoodIn wsX0_ofHearth wsX0_plotOf := goodIn_r _ [9] (by decide +kernel) (by decide +kernel)
set_option maxRecDepth 20000 in
theorem gX0_ofHearth_X0_plotOf : GoodIn wsX0_ofHearth (va_wsS RX0 19 yX0_plotOf wsX0_plotOf) := goodIn_app (goodIn_of _ (by decide +kernel)) ggX0_ofHearth_X0_plotOf
set_option maxRecDepth 20000 in
theorem ggX0_ofHearth_X0_turvesOn : GoodIn wsX0_ofHearth wsX0_turvesOn := goodIn_r _ [13, 1, 2, 3, 4, 5, 6, 30] (by decide +kernel) (by decide +kernel)
set_option maxRecDepth 20000 in
theorem gX0_ofHearth_X0_turvesOn : GoodIn wsX0_ofHearth (wsV RX0 68 RX0 yX0_turvesOn wsX0_turvesOn) := goodIn_app (goodIn_of _ (by decide +kernel)) ggX0_ofHearth_X0_turvesOn
set_option maxRecDepth 20000 in
theorem ggX0_ofHearth_X0_shortBy : GoodIn wsX0_ofHearth wsX0_shortBy := goodIn_r _ [17, 18, 19, 20, 21, 1, 2, 3, 4, 5, 6, 30] (by decide +kernel) (by decide +kernel)
set_option maxRecDepth 20000 in
theorem gX0_ofHearth_X0_shortBy : GoodIn wsX0_ofHearth (wsV RX0 90 RX0 yX0_shortBy wsX0_shortBy) := goodIn_app (goodIn_of _ (by decide +kernel)) ggX0_ofHearth_X0_shortBy
set_option maxRecDepth 20000 in
theorem ggX0_ofHearth_X0_willBeShortBy : GoodIn wsX0_ofHearth wsX0_willBeShortBy := goodIn_r _ [25, 18, 19, 20, 21, 1, 2, 3, 4, 5, 6, 7, 8, 9, 10, 11, 12, 13, 30] (by decide +kernel) (by decide +kernel)
set_option maxRecDepth 20000 in
theorem gX0_ofHearth_X0_willBeShortBy : GoodIn wsX0_ofHearth (wsV RX0 93 RX0 yX0_willBeShortBy wsX0_willBeShortBy) := goodIn_app (goodIn_of _ (by decide +kernel)) ggX0_ofHearth_X0_willBeShortBy
set_option maxRecDepth 20000 in
theorem ggX0_ofHearth_X0_willBeShortByTheBook : GoodIn wsX0_ofHearth wsX0_willBeShortByTheBook := goodIn_r _ [29, 18, 19, 20, 21, 1, 2, 3, 4, 5, 6, 30] (by decide +kernel) (by decide +kernel)
set_option maxRecDepth 20000 in
theorem gX0_ofHearth_X0_willBeShortByTheBook : GoodIn wsX0_ofHearth (wsV RX0 96 RX0 yX0_willBeShortByTheBook wsX0_willBeShortByTheBook) := goodIn_app (goodIn_of _ (by decide +kernel)) ggX0_ofHearth_X0_willBeShortByTheBook
theorem dX0_ofHearth_0 : decode cX0_ofHearth 0 = .ok (.iload_n 2, 1) := by decide +kernel
theorem dX0_ofHearth_1 : decode cX0_ofHearth 1 = .ok (.tableswitch 151 0 10 #[59, 67, 76, 85, 97, 103, 109, 115, 124, 133, 142], 59) := by decide +kernel
theorem dX0_ofHearth_60 : decode cX0_ofHearth 60 = .ok (.aload_n 0, 1) := by decide +kernel
theorem dX0_ofHearth_61 : decode cX0_ofHearth 61 = .ok (.iconst 5, 1) := by decide +kernel
theorem dX0_ofHearth_62 : decode cX0_ofHearth 62 = .ok (.iload_n 1, 1) := by decide +kernel
theorem dX0_ofHearth_63 : decode cX0_ofHearth 63 = .ok (.iadd, 1) := by decide +kernel
theorem dX0_ofHearth_64 : decode cX0_ofHearth 64 = .ok (.invokevirtual 30, 3) := by decide +kernel
theorem dX0_ofHearth_67 : decode cX0_ofHearth 67 = .ok (.ireturn, 1) := by decide +kernel
theorem dX0_ofHearth_68 : decode cX0_ofHearth 68 = .ok (.aload_n 0, 1) := by decide +kernel
theorem dX0_ofHearth_69 : decode cX0_ofHearth 69 = .ok (.bipush 10, 2) := by decide +kernel
theorem dX0_ofHearth_71 : decode cX0_ofHearth 71 = .ok (.iload_n 1, 1) := by decide +kernel
theorem dX0_ofHearth_72 : decode cX0_ofHearth 72 = .ok (.iadd, 1) := by decide +kernel
theorem dX0_ofHearth_73 : decode cX0_ofHearth 73 = .ok (.invokevirtual 30, 3) := by decide +kernel
theorem dX0_ofHearth_76 : decode cX0_ofHearth 76 = .ok (.ireturn, 1) := by decide +kernel
theorem dX0_ofHearth_77 : decode cX0_ofHearth 77 = .ok (.aload_n 0, 1) := by decide +kernel
theorem dX0_ofHearth_78 : decode cX0_ofHearth 78 = .ok (.bipush 15, 2) := by decide +kernel
theorem dX0_ofHearth_80 : decode cX0_ofHearth 80 = .ok (.iload_n 1, 1) := by decide +kernel
theorem dX0_ofHearth_81 : decode cX0_ofHearth 81 = .ok (.iadd, 1) := by decide +kernel
theorem dX0_ofHearth_82 : decode cX0_ofHearth 82 = .ok (.invokevirtual 30, 3) := by decide +kernel
theorem dX0_ofHearth_85 : decode cX0_ofHearth 85 = .ok (.ireturn, 1) := by decide +kernel
theorem dX0_ofHearth_86 : decode cX0_ofHearth 86 = .ok (.aload_n 0, 1) := by decide +kernel
theorem dX0_ofHearth_87 : decode cX0_ofHearth 87 = .ok (.iload_n 1, 1) := by decide +kernel
theorem dX0_ofHearth_88 : decode cX0_ofHearth 88 = .ok (.iconst 0, 1) := by decide +kernel
theorem dX0_ofHearth_89 : decode cX0_ofHearth 89 = .ok (.invokestatic 19, 3) := by decide +kernel
theorem dX0_ofHearth_92 : decode cX0_ofHearth 92 = .ok (.iconst 1, 1) := by decide +kernel
theorem dX0_ofHearth_93 : decode cX0_ofHearth 93 = .ok (.iconst 4, 1) := by decide +kernel
theorem dX0_ofHearth_94 : decode cX0_ofHearth 94 = .ok (.invokevirtual 68, 3) := by decide +kernel
theorem dX0_ofHearth_97 : decode cX0_ofHearth 97 = .ok (.ireturn, 1) := by decide +kernel
theorem dX0_ofHearth_98 : decode cX0_ofHearth 98 = .ok (.aload_n 0, 1) := by decide +kernel
theorem dX0_ofHearth_99 : decode cX0_ofHearth 99 = .ok (.iload_n 1, 1) := by decide +kernel
theorem dX0_ofHearth_100 : decode cX0_ofHearth 100 = .ok (.invokevirtual 90, 3) := by decide +kernel
theorem dX0_ofHearth_103 : decode cX0_ofHearth 103 = .ok (.ireturn, 1) := by decide +kernel
theorem dX0_ofHearth_104 : decode cX0_ofHearth 104 = .ok (.aload_n 0, 1) := by decide +kernel
theorem dX0_ofHearth_105 : decode cX0_ofHearth 105 = .ok (.iload_n 1, 1) := by decide +kernel
theorem dX0_ofHearth_106 : decode cX0_ofHearth 106 = .ok (.invokevirtual 93, 3) := by decide +kernel
theorem dX0_ofHearth_109 : decode cX0_ofHearth 109 = .ok (.ireturn, 1) := by decide +kernel
theorem dX0_ofHearth_110 : decode cX0_ofHearth 110 = .ok (.aload_n 0, 1) := by decide +kernel
theorem dX0_ofHearth_111 : decode cX0_ofHearth 111 = .ok (.iload_n 1, 1) := by decide +kernel
theorem dX0_ofHearth_112 : decode cX0_ofHearth 112 = .ok (.invokevirtual 96, 3) := by decide +kernel
theorem dX0_ofHearth_115 : decode cX0_ofHearth 115 = .ok (.ireturn, 1) := by decide +kernel
theorem dX0_ofHearth_116 : decode cX0_ofHearth 116 = .ok (.aload_n 0, 1) := by decide +kernel
theorem dX0_ofHearth_117 : decode cX0_ofHearth 117 = .ok (.bipush 20, 2) := by decide +kernel
theorem dX0_ofHearth_119 : decode cX0_ofHearth 119 = .ok (.iload_n 1, 1) := by decide +kernel
theorem dX0_ofHearth_120 : decode cX0_ofHearth 120 = .ok (.iadd, 1) := by decide +kernel
theorem dX0_ofHearth_121 : decode cX0_ofHearth 121 = .ok (.invokevirtual 30, 3) := by decide +kernel
theorem dX0_ofHearth_124 : decode cX0_ofHearth 124 = .ok (.ireturn, 1) := by decide +kernel
theorem dX0_ofHearth_125 : decode cX0_ofHearth 125 = .ok (.aload_n 0, 1) := by decide +kernel
theorem dX0_ofHearth_126 : decode cX0_ofHearth 126 = .ok (.bipush 25, 2) := by decide +kernel
theorem dX0_ofHearth_128 : decode cX0_ofHearth 128 = .ok (.iload_n 1, 1) := by decide +kernel
theorem dX0_ofHearth_129 : decode cX0_ofHearth 129 = .ok (.iadd, 1) := by decide +kernel
theorem dX0_ofHearth_130 : decode cX0_ofHearth 130 = .ok (.invokevirtual 30, 3) := by decide +kernel
theorem dX0_ofHearth_133 : decode cX0_ofHearth 133 = .ok (.ireturn, 1) := by decide +kernel
theorem dX0_ofHearth_134 : decode cX0_ofHearth 134 = .ok (.aload_n 0, 1) := by decide +kernel
theorem dX0_ofHearth_135 : decode cX0_ofHearth 135 = .ok (.bipush 30, 2) := by decide +kernel
theorem dX0_ofHearth_137 : decode cX0_ofHearth 137 = .ok (.iload_n 1, 1) := by decide +kernel
theorem dX0_ofHearth_138 : decode cX0_ofHearth 138 = .ok (.iadd, 1) := by decide +kernel
theorem dX0_ofHearth_139 : decode cX0_ofHearth 139 = .ok (.invokevirtual 30, 3) := by decide +kernel
theorem dX0_ofHearth_142 : decode cX0_ofHearth 142 = .ok (.ireturn, 1) := by decide +kernel
theorem dX0_ofHearth_143 : decode cX0_ofHearth 143 = .ok (.aload_n 0, 1) := by decide +kernel
theorem dX0_ofHearth_144 : decode cX0_ofHearth 144 = .ok (.bipush 35, 2) := by decide +kernel
theorem dX0_ofHearth_146 : decode cX0_ofHearth 146 = .ok (.iload_n 1, 1) := by decide +kernel
theorem dX0_ofHearth_147 : decode cX0_ofHearth 147 = .ok (.iadd, 1) := by decide +kernel
theorem dX0_ofHearth_148 : decode cX0_ofHearth 148 = .ok (.invokevirtual 30, 3) := by decide +kernel
theorem dX0_ofHearth_151 : decode cX0_ofHearth 151 = .ok (.ireturn, 1) := by decide +kernel
theorem dX0_ofHearth_152 : decode cX0_ofHearth 152 = .ok (.aload_n 0, 1) := by decide +kernel
theorem dX0_ofHearth_153 : decode cX0_ofHearth 153 = .ok (.bipush 40, 2) := by decide +kernel
theorem dX0_ofHearth_155 : decode cX0_ofHearth 155 = .ok (.iload_n 1, 1) := by decide +kernel
theorem dX0_ofHearth_156 : decode cX0_ofHearth 156 = .ok (.iadd, 1) := by decide +kernel
theorem dX0_ofHearth_157 : decode cX0_ofHearth 157 = .ok (.invokevirtual 30, 3) := by decide +kernel
theorem dX0_ofHearth_160 : decode cX0_ofHearth 160 = .ok (.ireturn, 1) := by decide +kernel
set_option maxRecDepth 20000 in
theorem ggX0_ofBank_X0_at : GoodIn wsX0_ofBank wsX0_at := goodIn_r _ [5, 6, 22] (by decide +kernel) (by decide +kernel)
set_option maxRecDepth 20000 in
theorem gX0_ofBank_X0_at : GoodIn wsX0_ofBank (wsV RX0 30 RX0 yX0_at wsX0_at) := goodIn_app (goodIn_of _ (by decide +kernel)) ggX0_ofBank_X0_at
set_option maxRecDepth 20000 in
theorem ggX0_ofBank_X0_cuttersOnBank : GoodIn wsX0_ofBank wsX0_cuttersOnBank := goodIn_r _ [10, 11, 12, 13, 4, 14, 1, 2, 3, 5, 6, 22] (by decide +kernel) (by decide +kernel)
set_option maxRecDepth 20000 in
theorem gX0_ofBank_X0_cuttersOnBank : GoodIn wsX0_ofBank (wsV RX0 37 RX0 yX0_cuttersOnBank wsX0_cuttersOnBank) := goodIn_app (goodIn_of _ (by decide +kernel)) ggX0_ofBank_X0_cuttersOnBank
set_option maxRecDepth 20000 in
theorem ggX0_ofBank_X0_plotOf : GoodIn wsX0_ofBank wsX0_plotOf := goodIn_r _ [17] (by decide +kernel) (by decide +kernel)
set_option maxRecDepth 20000 in
theorem gX0_ofBank_X0_plotOf : GoodIn wsX0_ofBank (va_wsS RX0 19 yX0_plotOf wsX0_plotOf) := goodIn_app (goodIn_of _ (by decide +kernel)) ggX0_ofBank_X0_plotOf
set_option maxRecDepth 20000 in
theorem ggX0_ofBank_X0_turvesOn : GoodIn wsX0_ofBank wsX0_turvesOn := goodIn_r _ [21, 1, 2, 3, 4, 5, 6, 22] (by decide +kernel) (by decide +kernel)
set_option maxRecDepth 20000 in
theorem gX0_ofBank_X0_turvesOn : GoodIn wsX0_ofBank (wsV RX0 68 RX0 yX0_turvesOn wsX0_turvesOn) := goodIn_app (goodIn_of _ (by decide +kernel)) ggX0_ofBank_X0_turvesOn
theorem dX0_ofBank_0 : decode cX0_ofBank 0 = .ok (.iload_n 2, 1) := by decide +kernel
theorem dX0_ofBank_1 : decode cX0_ofBank 1 = .ok (.tableswitch 64 0 3 #[31, 40, 49, 58], 31) := by decide +kernel
theorem dX0_ofBank_32 : decode cX0_ofBank 32 = .ok (.aload_n 0, 1) := by decide +kernel
theorem dX0_ofBank_33 : decode cX0_ofBank 33 = .ok (.bipush 45, 2) := by decide +kernel
theorem dX0_ofBank_35 : decode cX0_ofBank 35 = .ok (.iload_n 1, 1) := by decide +kernel
theorem dX0_ofBank_36 : decode cX0_ofBank 36 = .ok (.iadd, 1) := by decide +kernel
theorem dX0_ofBank_37 : decode cX0_ofBank 37 = .ok (.invokevirtual 30, 3) := by decide +kernel
theorem dX0_ofBank_40 : decode cX0_ofBank 40 = .ok (.ireturn, 1) := by decide +kernel
theorem dX0_ofBank_41 : decode cX0_ofBank 41 = .ok (.aload_n 0, 1) := by decide +kernel
theorem dX0_ofBank_42 : decode cX0_ofBank 42 = .ok (.bipush 49, 2) := by decide +kernel
theorem dX0_ofBank_44 : decode cX0_ofBank 44 = .ok (.iload_n 1, 1) := by decide +kernel
theorem dX0_ofBank_45 : decode cX0_ofBank 45 = .ok (.iadd, 1) := by decide +kernel
theorem dX0_ofBank_46 : decode cX0_ofBank 46 = .ok (.invokevirtual 30, 3) := by decide +kernel
theorem dX0_ofBank_49 : decode cX0_ofBank 49 = .ok (.ireturn, 1) := by decide +kernel
theorem dX0_ofBank_50 : decode cX0_ofBank 50 = .ok (.aload_n 0, 1) := by decide +kernel
theorem dX0_ofBank_51 : decode cX0_ofBank 51 = .ok (.bipush 53, 2) := by decide +kernel
theorem dX0_ofBank_53 : decode cX0_ofBank 53 = .ok (.iload_n 1, 1) := by decide +kernel
theorem dX0_ofBank_54 : decode cX0_ofBank 54 = .ok (.iadd, 1) := by decide +kernel
theorem dX0_ofBank_55 : decode cX0_ofBank 55 = .ok (.invokevirtual 30, 3) := by decide +kernel
theorem dX0_ofBank_58 : decode cX0_ofBank 58 = .ok (.ireturn, 1) := by decide +kernel
theorem dX0_ofBank_59 : decode cX0_ofBank 59 = .ok (.aload_n 0, 1) := by decide +kernel
theorem dX0_ofBank_60 : decode cX0_ofBank 60 = .ok (.iload_n 1, 1) := by decide +kernel
theorem dX0_ofBank_61 : decode cX0_ofBank 61 = .ok (.invokevirtual 37, 3) := by decide +kernel
theorem dX0_ofBank_64 : decode cX0_ofBank 64 = .ok (.ireturn, 1) := by decide +kernel
theorem dX0_ofBank_65 : decode cX0_ofBank 65 = .ok (.aload_n 0, 1) := by decide +kernel
theorem dX0_ofBank_66 : decode cX0_ofBank 66 = .ok (.iconst 0, 1) := by decide +kernel
theorem dX0_ofBank_67 : decode cX0_ofBank 67 = .ok (.iload_n 1, 1) := by decide +kernel
theorem dX0_ofBank_68 : decode cX0_ofBank 68 = .ok (.invokestatic 19, 3) := by decide +kernel
theorem dX0_ofBank_71 : decode cX0_ofBank 71 = .ok (.iconst 4, 1) := by decide +kernel
theorem dX0_ofBank_72 : decode cX0_ofBank 72 = .ok (.iconst 5, 1) := by decide +kernel
theorem dX0_ofBank_73 : decode cX0_ofBank 73 = .ok (.invokevirtual 68, 3) := by decide +kernel
theorem dX0_ofBank_76 : decode cX0_ofBank 76 = .ok (.ireturn, 1) := by decide +kernel
set_option maxRecDepth 20000 in
theorem ggX0_ofPlot_X0_plotOf : GoodIn wsX0_ofPlot wsX0_plotOf := goodIn_r _ [4] (by decide +kernel) (by decide +kernel)
set_option maxRecDepth 20000 in
theorem gX0_ofPlot_X0_plotOf : GoodIn wsX0_ofPlot (va_wsS RX0 19 yX0_plotOf wsX0_plotOf) := goodIn_app (goodIn_of _ (by decide +kernel)) ggX0_ofPlot_X0_plotOf
set_option maxRecDepth 20000 in
theorem ggX0_ofPlot_X0_at : GoodIn wsX0_ofPlot wsX0_at := goodIn_r _ [8, 9, 14] (by decide +kernel) (by decide +kernel)
set_option maxRecDepth 20000 in
theorem gX0_ofPlot_X0_at : GoodIn wsX0_ofPlot (wsV RX0 30 RX0 yX0_at wsX0_at) := goodIn_app (goodIn_of _ (by decide +kernel)) ggX0_ofPlot_X0_at
set_option maxRecDepth 20000 in
theorem ggX0_ofPlot_X0_cuttersAt : GoodIn wsX0_ofPlot wsX0_cuttersAt := goodIn_r _ [13, 5, 6, 7, 3, 8, 9, 14] (by decide +kernel) (by decide +kernel)
set_option maxRecDepth 20000 in
theorem gX0_ofPlot_X0_cuttersAt : GoodIn wsX0_ofPlot (wsV RX0 34 RX0 yX0_cuttersAt wsX0_cuttersAt) := goodIn_app (goodIn_of _ (by decide +kernel)) ggX0_ofPlot_X0_cuttersAt
theorem dX0_ofPlot_0 : decode cX0_ofPlot 0 = .ok (.iload_n 1, 1) := by decide +kernel
theorem dX0_ofPlot_1 : decode cX0_ofPlot 1 = .ok (.iload_n 2, 1) := by decide +kernel
theorem dX0_ofPlot_2 : decode cX0_ofPlot 2 = .ok (.invokestatic 19, 3) := by decide +kernel
theorem dX0_ofPlot_5 : decode cX0_ofPlot 5 = .ok (.istore 4, 2) := by decide +kernel
theorem dX0_ofPlot_7 : decode cX0_ofPlot 7 = .ok (.iload_n 3, 1) := by decide +kernel
theorem dX0_ofPlot_8 : decode cX0_ofPlot 8 = .ok (.tableswitch 72 0 3 #[32, 42, 52, 62], 32) := by decide +kernel
theorem dX0_ofPlot_40 : decode cX0_ofPlot 40 = .ok (.aload_n 0, 1) := by decide +kernel
theorem dX0_ofPlot_41 : decode cX0_ofPlot 41 = .ok (.bipush 57, 2) := by decide +kernel
theorem dX0_ofPlot_43 : decode cX0_ofPlot 43 = .ok (.iload 4, 2) := by decide +kernel
theorem dX0_ofPlot_45 : decode cX0_ofPlot 45 = .ok (.iadd, 1) := by decide +kernel
theorem dX0_ofPlot_46 : decode cX0_ofPlot 46 = .ok (.invokevirtual 30, 3) := by decide +kernel
theorem dX0_ofPlot_49 : decode cX0_ofPlot 49 = .ok (.ireturn, 1) := by decide +kernel
theorem dX0_ofPlot_50 : decode cX0_ofPlot 50 = .ok (.aload_n 0, 1) := by decide +kernel
theorem dX0_ofPlot_51 : decode cX0_ofPlot 51 = .ok (.bipush 77, 2) := by decide +kernel
theorem dX0_ofPlot_53 : decode cX0_ofPlot 53 = .ok (.iload 4, 2) := by decide +kernel
theorem dX0_ofPlot_55 : decode cX0_ofPlot 55 = .ok (.iadd, 1) := by decide +kernel
theorem dX0_ofPlot_56 : decode cX0_ofPlot 56 = .ok (.invokevirtual 30, 3) := by decide +kernel
theorem dX0_ofPlot_59 : decode cX0_ofPlot 59 = .ok (.ireturn, 1) := by decide +kernel
theorem dX0_ofPlot_60 : decode cX0_ofPlot 60 = .ok (.aload_n 0, 1) := by decide +kernel
theorem dX0_ofPlot_61 : decode cX0_ofPlot 61 = .ok (.bipush 97, 2) := by decide +kernel
theorem dX0_ofPlot_63 : decode cX0_ofPlot 63 = .ok (.iload 4, 2) := by decide +kernel
theorem dX0_ofPlot_65 : decode cX0_ofPlot 65 = .ok (.iadd, 1) := by decide +kernel
theorem dX0_ofPlot_66 : decode cX0_ofPlot 66 = .ok (.invokevirtual 30, 3) := by decide +kernel
theorem dX0_ofPlot_69 : decode cX0_ofPlot 69 = .ok (.ireturn, 1) := by decide +kernel
theorem dX0_ofPlot_70 : decode cX0_ofPlot 70 = .ok (.aload_n 0, 1) := by decide +kernel
theorem dX0_ofPlot_71 : decode cX0_ofPlot 71 = .ok (.bipush 117, 2) := by decide +kernel
theorem dX0_ofPlot_73 : decode cX0_ofPlot 73 = .ok (.iload 4, 2) := by decide +kernel
theorem dX0_ofPlot_75 : decode cX0_ofPlot 75 = .ok (.iadd, 1) := by decide +kernel
theorem dX0_ofPlot_76 : decode cX0_ofPlot 76 = .ok (.invokevirtual 30, 3) := by decide +kernel
theorem dX0_ofPlot_79 : decode cX0_ofPlot 79 = .ok (.ireturn, 1) := by decide +kernel
theorem dX0_ofPlot_80 : decode cX0_ofPlot 80 = .ok (.aload_n 0, 1) := by decide +kernel
theorem dX0_ofPlot_81 : decode cX0_ofPlot 81 = .ok (.iload_n 1, 1) := by decide +kernel
theorem dX0_ofPlot_82 : decode cX0_ofPlot 82 = .ok (.iload_n 2, 1) := by decide +kernel
theorem dX0_ofPlot_83 : decode cX0_ofPlot 83 = .ok (.invokevirtual 34, 3) := by decide +kernel
theorem dX0_ofPlot_86 : decode cX0_ofPlot 86 = .ok (.ireturn, 1) := by decide +kernel
set_option maxRecDepth 20000 in
theorem ggX0_ofCutter_X0_at : GoodIn wsX0_ofCutter wsX0_at := goodIn_r _ [5, 6, 7] (by decide +kernel) (by decide +kernel)
set_option maxRecDepth 20000 in
theorem gX0_ofCutter_X0_at : GoodIn wsX0_ofCutter (wsV RX0 30 RX0 yX0_at wsX0_at) := goodIn_app (goodIn_of _ (by decide +kernel)) ggX0_ofCutter_X0_at
theorem dX0_ofCutter_0 : decode cX0_ofCutter 0 = .ok (.iload_n 2, 1) := by decide +kernel
theorem dX0_ofCutter_1 : decode cX0_ofCutter 1 = .ok (.tableswitch 57 0 2 #[27, 37, 47], 27) := by decide +kernel
theorem dX0_ofCutter_28 : decode cX0_ofCutter 28 = .ok (.aload_n 0, 1) := by decide +kernel
theorem dX0_ofCutter_29 : decode cX0_ofCutter 29 = .ok (.sipush 137, 3) := by decide +kernel
theorem dX0_ofCutter_32 : decode cX0_ofCutter 32 = .ok (.iload_n 1, 1) := by decide +kernel
theorem dX0_ofCutter_33 : decode cX0_ofCutter 33 = .ok (.iadd, 1) := by decide +kernel
theorem dX0_ofCutter_34 : decode cX0_ofCutter 34 = .ok (.invokevirtual 30, 3) := by decide +kernel
theorem dX0_ofCutter_37 : decode cX0_ofCutter 37 = .ok (.ireturn, 1) := by decide +kernel
theorem dX0_ofCutter_38 : decode cX0_ofCutter 38 = .ok (.aload_n 0, 1) := by decide +kernel
theorem dX0_ofCutter_39 : decode cX0_ofCutter 39 = .ok (.sipush 143, 3) := by decide +kernel
theorem dX0_ofCutter_42 : decode cX0_ofCutter 42 = .ok (.iload_n 1, 1) := by decide +kernel
theorem dX0_ofCutter_43 : decode cX0_ofCutter 43 = .ok (.iadd, 1) := by decide +kernel
theorem dX0_ofCutter_44 : decode cX0_ofCutter 44 = .ok (.invokevirtual 30, 3) := by decide +kernel
theorem dX0_ofCutter_47 : decode cX0_ofCutter 47 = .ok (.ireturn, 1) := by decide +kernel
theorem dX0_ofCutter_48 : decode cX0_ofCutter 48 = .ok (.aload_n 0, 1) := by decide +kernel
theorem dX0_ofCutter_49 : decode cX0_ofCutter 49 = .ok (.sipush 149, 3) := by decide +kernel
theorem dX0_ofCutter_52 : decode cX0_ofCutter 52 = .ok (.iload_n 1, 1) := by decide +kernel
theorem dX0_ofCutter_53 : decode cX0_ofCutter 53 = .ok (.iadd, 1) := by decide +kernel
theorem dX0_ofCutter_54 : decode cX0_ofCutter 54 = .ok (.invokevirtual 30, 3) := by decide +kernel
theorem dX0_ofCutter_57 : decode cX0_ofCutter 57 = .ok (.ireturn, 1) := by decide +kernel
theorem dX0_ofCutter_58 : decode cX0_ofCutter 58 = .ok (.aload_n 0, 1) := by decide +kernel
theorem dX0_ofCutter_59 : decode cX0_ofCutter 59 = .ok (.sipush 155, 3) := by decide +kernel
theorem dX0_ofCutter_62 : decode cX0_ofCutter 62 = .ok (.iload_n 1, 1) := by decide +kernel
theorem dX0_ofCutter_63 : decode cX0_ofCutter 63 = .ok (.iadd, 1) := by decide +kernel
theorem dX0_ofCutter_64 : decode cX0_ofCutter 64 = .ok (.invokevirtual 30, 3) := by decide +kernel
theorem dX0_ofCutter_67 : decode cX0_ofCutter 67 = .ok (.ireturn, 1) := by decide +kernel
set_option maxRecDepth 20000 in
theorem ggX0_ofAll_X0_at : GoodIn wsX0_ofAll wsX0_at := goodIn_r _ [5, 6, 54] (by decide +kernel) (by decide +kernel)
set_option maxRecDepth 20000 in
theorem gX0_ofAll_X0_at : GoodIn wsX0_ofAll (wsV RX0 30 RX0 yX0_at wsX0_at) := goodIn_app (goodIn_of _ (by decide +kernel)) ggX0_ofAll_X0_at
set_option maxRecDepth 20000 in
theorem ggX0_ofAll_X0_cuttersAtWork : GoodIn wsX0_ofAll wsX0_cuttersAtWork := goodIn_r _ [10, 11, 12, 13, 4, 14, 15, 16, 17, 18, 1, 2, 3, 5, 6, 54] (by decide +kernel) (by decide +kernel)
set_option maxRecDepth 20000 in
theorem gX0_ofAll_X0_cuttersAtWork : GoodIn wsX0_ofAll (wsV RX0 99 RX0 yX0_cuttersAtWork wsX0_cuttersAtWork) := goodIn_app (goodIn_of _ (by decide +kernel)) ggX0_ofAll_X0_cuttersAtWork
set_option maxRecDepth 20000 in
theorem ggX0_ofAll_X0_sum : GoodIn wsX0_ofAll wsX0_sum := goodIn_r _ [22, 1, 2, 3, 4, 5, 6, 54] (by decide +kernel) (by decide +kernel)
set_option maxRecDepth 20000 in
theorem gX0_ofAll_X0_sum : GoodIn wsX0_ofAll (wsV RX0 102 RX0 yX0_sum wsX0_sum) := goodIn_app (goodIn_of _ (by decide +kernel)) ggX0_ofAll_X0_sum
set_option maxRecDepth 20000 in
theorem ggX0_ofAll_X0_turvesOnBanks : GoodIn wsX0_ofAll wsX0_turvesOnBanks := goodIn_r _ [26, 27, 28, 29, 4, 30, 1, 2, 3, 5, 6, 54] (by decide +kernel) (by decide +kernel)
set_option maxRecDepth 20000 in
theorem gX0_ofAll_X0_turvesOnBanks : GoodIn wsX0_ofAll (wsV RX0 105 RX0 yX0_turvesOnBanks wsX0_turvesOnBanks) := goodIn_app (goodIn_of _ (by decide +kernel)) ggX0_ofAll_X0_turvesOnBanks
set_option maxRecDepth 20000 in
theorem ggX0_ofAll_X0_hearthsShort : GoodIn wsX0_ofAll wsX0_hearthsShort := goodIn_r _ [34, 35, 36, 37, 4, 38, 39, 40, 41, 42, 1, 2, 3, 5, 6, 54] (by decide +kernel) (by decide +kernel)
set_option maxRecDepth 20000 in
theorem gX0_ofAll_X0_hearthsShort : GoodIn wsX0_ofAll (wsV RX0 108 RX0 yX0_hearthsShort wsX0_hearthsShort) := goodIn_app (goodIn_of _ (by decide +kernel)) ggX0_ofAll_X0_hearthsShort
set_option maxRecDepth 20000 in
theorem ggX0_ofAll_X0_hearthsThatWillBeShort : GoodIn wsX0_ofAll wsX0_hearthsThatWillBeShort := goodIn_r _ [46, 47, 48, 49, 4, 50, 39, 40, 41, 42, 1, 2, 3, 5, 6, 51, 52, 53, 27, 28, 29, 30, 54] (by decide +kernel) (by decide +kernel)
set_option maxRecDepth 20000 in
theorem gX0_ofAll_X0_hearthsThatWillBeShort : GoodIn wsX0_ofAll (wsV RX0 111 RX0 yX0_hearthsThatWillBeShort wsX0_hearthsThatWillBeShort) := goodIn_app (goodIn_of _ (by decide +kernel)) ggX0_ofAll_X0_hearthsThatWillBeShort
theorem dX0_ofAll_0 : decode cX0_ofAll 0 = .ok (.iload_n 1, 1) := by decide +kernel
theorem dX0_ofAll_1 : decode cX0_ofAll 1 = .ok (.tableswitch 127 0 10 #[59, 65, 71, 76, 84, 89, 97, 105, 110, 115, 121], 59) := by decide +kernel
theorem dX0_ofAll_60 : decode cX0_ofAll 60 = .ok (.aload_n 0, 1) := by decide +kernel
theorem dX0_ofAll_61 : decode cX0_ofAll 61 = .ok (.iconst 0, 1) := by decide +kernel
theorem dX0_ofAll_62 : decode cX0_ofAll 62 = .ok (.invokevirtual 30, 3) := by decide +kernel
theorem dX0_ofAll_65 : decode cX0_ofAll 65 = .ok (.ireturn, 1) := by decide +kernel
theorem dX0_ofAll_66 : decode cX0_ofAll 66 = .ok (.aload_n 0, 1) := by decide +kernel
theorem dX0_ofAll_67 : decode cX0_ofAll 67 = .ok (.iconst 1, 1) := by decide +kernel
theorem dX0_ofAll_68 : decode cX0_ofAll 68 = .ok (.invokevirtual 30, 3) := by decide +kernel
theorem dX0_ofAll_71 : decode cX0_ofAll 71 = .ok (.ireturn, 1) := by decide +kernel
theorem dX0_ofAll_72 : decode cX0_ofAll 72 = .ok (.aload_n 0, 1) := by decide +kernel
theorem dX0_ofAll_73 : decode cX0_ofAll 73 = .ok (.invokevirtual 99, 3) := by decide +kernel
theorem dX0_ofAll_76 : decode cX0_ofAll 76 = .ok (.ireturn, 1) := by decide +kernel
theorem dX0_ofAll_77 : decode cX0_ofAll 77 = .ok (.aload_n 0, 1) := by decide +kernel
theorem dX0_ofAll_78 : decode cX0_ofAll 78 = .ok (.bipush 45, 2) := by decide +kernel
theorem dX0_ofAll_80 : decode cX0_ofAll 80 = .ok (.iconst 4, 1) := by decide +kernel
theorem dX0_ofAll_81 : decode cX0_ofAll 81 = .ok (.invokevirtual 102, 3) := by decide +kernel
theorem dX0_ofAll_84 : decode cX0_ofAll 84 = .ok (.ireturn, 1) := by decide +kernel
theorem dX0_ofAll_85 : decode cX0_ofAll 85 = .ok (.aload_n 0, 1) := by decide +kernel
theorem dX0_ofAll_86 : decode cX0_ofAll 86 = .ok (.invokevirtual 105, 3) := by decide +kernel
theorem dX0_ofAll_89 : decode cX0_ofAll 89 = .ok (.ireturn, 1) := by decide +kernel
theorem dX0_ofAll_90 : decode cX0_ofAll 90 = .ok (.aload_n 0, 1) := by decide +kernel
theorem dX0_ofAll_91 : decode cX0_ofAll 91 = .ok (.bipush 15, 2) := by decide +kernel
theorem dX0_ofAll_93 : decode cX0_ofAll 93 = .ok (.iconst 5, 1) := by decide +kernel
theorem dX0_ofAll_94 : decode cX0_ofAll 94 = .ok (.invokevirtual 102, 3) := by decide +kernel
theorem dX0_ofAll_97 : decode cX0_ofAll 97 = .ok (.ireturn, 1) := by decide +kernel
theorem dX0_ofAll_98 : decode cX0_ofAll 98 = .ok (.aload_n 0, 1) := by decide +kernel
theorem dX0_ofAll_99 : decode cX0_ofAll 99 = .ok (.bipush 35, 2) := by decide +kernel
theorem dX0_ofAll_101 : decode cX0_ofAll 101 = .ok (.iconst 5, 1) := by decide +kernel
theorem dX0_ofAll_102 : decode cX0_ofAll 102 = .ok (.invokevirtual 102, 3) := by decide +kernel
theorem dX0_ofAll_105 : decode cX0_ofAll 105 = .ok (.ireturn, 1) := by decide +kernel
theorem dX0_ofAll_106 : decode cX0_ofAll 106 = .ok (.aload_n 0, 1) := by decide +kernel
theorem dX0_ofAll_107 : decode cX0_ofAll 107 = .ok (.invokevirtual 108, 3) := by decide +kernel
theorem dX0_ofAll_110 : decode cX0_ofAll 110 = .ok (.ireturn, 1) := by decide +kernel
theorem dX0_ofAll_111 : decode cX0_ofAll 111 = .ok (.aload_n 0, 1) := by decide +kernel
theorem dX0_ofAll_112 : decode cX0_ofAll 112 = .ok (.invokevirtual 111, 3) := by decide +kernel
theorem dX0_ofAll_115 : decode cX0_ofAll 115 = .ok (.ireturn, 1) := by decide +kernel
theorem dX0_ofAll_116 : decode cX0_ofAll 116 = .ok (.aload_n 0, 1) := by decide +kernel
theorem dX0_ofAll_117 : decode cX0_ofAll 117 = .ok (.iconst 2, 1) := by decide +kernel
theorem dX0_ofAll_118 : decode cX0_ofAll 118 = .ok (.invokevirtual 30, 3) := by decide +kernel
theorem dX0_ofAll_121 : decode cX0_ofAll 121 = .ok (.ireturn, 1) := by decide +kernel
theorem dX0_ofAll_122 : decode cX0_ofAll 122 = .ok (.aload_n 0, 1) := by decide +kernel
theorem dX0_ofAll_123 : decode cX0_ofAll 123 = .ok (.iconst 3, 1) := by decide +kernel
theorem dX0_ofAll_124 : decode cX0_ofAll 124 = .ok (.invokevirtual 30, 3) := by decide +kernel
theorem dX0_ofAll_127 : decode cX0_ofAll 127 = .ok (.ireturn, 1) := by decide +kernel
theorem dX0_ofAll_128 : decode cX0_ofAll 128 = .ok (.aload_n 0, 1) := by decide +kernel
theorem dX0_ofAll_129 : decode cX0_ofAll 129 = .ok (.iconst 4, 1) := by decide +kernel
theorem dX0_ofAll_130 : decode cX0_ofAll 130 = .ok (.invokevirtual 30, 3) := by decide +kernel
theorem dX0_ofAll_133 : decode cX0_ofAll 133 = .ok (.ireturn, 1) := by decide +kernel
end
section
abbrev rmX0_add : Room := { frames := 1, cells := 0, slots := 0, locals := 22 }
abbrev MX0_add : mj_M := (RX0, 3, wsX0_add, rmX0_add, false, none)
abbrev rmX0_at : Room := { frames := 0, cells := 0, slots := 0, locals := 0 }
abbrev MX0_at : mj_M := (RX0, 2, wsX0_at, rmX0_at, false, none)
abbrev rmX0_burn : Room := { frames := 2, cells := 0, slots := 0, locals := 44 }
abbrev MX0_burn : mj_M := (RX0, 4, wsX0_burn, rmX0_burn, false, none)
abbrev rmX0_cartHome : Room := { frames := 2, cells := 0, slots := 0, locals := 44 }
abbrev MX0_cartHome : mj_M := (RX0, 7, wsX0_cartHome, rmX0_cartHome, false, none)
abbrev rmX0_copyFrom : Room := { frames := 1, cells := 0, slots := 0, locals := 22 }
abbrev MX0_copyFrom : mj_M := (RX0, 3, wsX0_copyFrom, rmX0_copyFrom, false, none)
abbrev rmX0_cutTurves : Room := { frames := 2, cells := 0, slots := 0, locals := 44 }
abbrev MX0_cutTurves : mj_M := (RX0, 5, wsX0_cutTurves, rmX0_cutTurves, false, none)
abbrev rmX0_cuttersAt : Room := { frames := 1, cells := 0, slots := 0, locals := 21 }
abbrev MX0_cuttersAt : mj_M := (RX0, 5, wsX0_cuttersAt, rmX0_cuttersAt, false, none)
abbrev rmX0_cuttersAtWork : Room := { frames := 3, cells := 0, slots := 0, locals := 68 }
abbrev MX0_cuttersAtWork : mj_M := (RX0, 3, wsX0_cuttersAtWork, rmX0_cuttersAtWork, false, none)
abbrev rmX0_cuttersOnBank : Room := { frames := 2, cells := 0, slots := 0, locals := 45 }
abbrev MX0_cuttersOnBank : mj_M := (RX0, 4, wsX0_cuttersOnBank, rmX0_cuttersOnBank, false, none)
abbrev rmX0_dryOut : Room := { frames := 2, cells := 0, slots := 0, locals := 44 }
abbrev MX0_dryOut : mj_M := (RX0, 5, wsX0_dryOut, rmX0_dryOut, false, none)
abbrev rmX0_goCarts : Room := { frames := 3, cells := 0, slots := 0, locals := 70 }
abbrev MX0_goCarts : mj_M := (RX0, 7, wsX0_goCarts, rmX0_goCarts, false, none)
abbrev rmX0_halfRoundedUp : Room := { frames := 0, cells := 0, slots := 0, locals := 0 }
abbrev MX0_halfRoundedUp : mj_M := (RX0, 1, wsX0_halfRoundedUp, rmX0_halfRoundedUp, false, none)
abbrev rmX0_hearthsShort : Room := { frames := 2, cells := 0, slots := 0, locals := 42 }
abbrev MX0_hearthsShort : mj_M := (RX0, 3, wsX0_hearthsShort, rmX0_hearthsShort, false, none)
abbrev rmX0_hearthsThatWillBeShort : Room := { frames := 3, cells := 0, slots := 0, locals := 68 }
abbrev MX0_hearthsThatWillBeShort : mj_M := (RX0, 3, wsX0_hearthsThatWillBeShort, rmX0_hearthsThatWillBeShort, false, none)
abbrev rmX0_init : Room := { frames := 3, cells := 0, slots := 0, locals := 66 }
abbrev MX0_init : mj_M := (RX0, 3, wsX0_init, rmX0_init, true, none)
abbrev rmX0_letRest : Room := { frames := 2, cells := 0, slots := 0, locals := 45 }
abbrev MX0_letRest : mj_M := (RX0, 2, wsX0_letRest, rmX0_letRest, false, none)
abbrev rmX0_ofAll : Room := { frames := 4, cells := 0, slots := 0, locals := 90 }
abbrev MX0_ofAll : mj_M := (RX0, 2, wsX0_ofAll, rmX0_ofAll, false, none)
abbrev rmX0_ofBank : Room := { frames := 3, cells := 0, slots := 0, locals := 68 }
abbrev MX0_ofBank : mj_M := (RX0, 3, wsX0_ofBank, rmX0_ofBank, false, none)
abbrev rmX0_ofCutter : Room := { frames := 1, cells := 0, slots := 0, locals := 21 }
abbrev MX0_ofCutter : mj_M := (RX0, 3, wsX0_ofCutter, rmX0_ofCutter, false, none)
abbrev rmX0_ofHearth : Room := { frames := 3, cells := 0, slots := 0, locals := 68 }
abbrev MX0_ofHearth : mj_M := (RX0, 3, wsX0_ofHearth, rmX0_ofHearth, false, none)
abbrev rmX0_ofPlot : Room := { frames := 2, cells := 0, slots := 0, locals := 45 }
abbrev MX0_ofPlot : mj_M := (RX0, 5, wsX0_ofPlot, rmX0_ofPlot, false, none)
abbrev rmX0_passDays : Room := { frames := 4, cells := 0, slots := 0, locals := 96 }
abbrev MX0_passDays : mj_M := (RX0, 4, wsX0_passDays, rmX0_passDays, false, none)
abbrev rmX0_plotOf : Room := { frames := 0, cells := 0, slots := 0, locals := 0 }
abbrev MX0_plotOf : mj_M := (RX0, 2, wsX0_plotOf, rmX0_plotOf, false, none)
abbrev rmX0_poorestWidow : Room := { frames := 1, cells := 0, slots := 0, locals := 21 }
abbrev MX0_poorestWidow : mj_M := (RX0, 3, wsX0_poorestWidow, rmX0_poorestWidow, false, none)
abbrev rmX0_put : Room := { frames := 0, cells := 0, slots := 0, locals := 0 }
abbrev MX0_put : mj_M := (RX0, 3, wsX0_put, rmX0_put, false, none)
abbrev rmX0_rainOf : Room := { frames := 1, cells := 0, slots := 0, locals := 22 }
abbrev MX0_rainOf : mj_M := (RX0, 2, wsX0_rainOf, rmX0_rainOf, false, none)
abbrev rmX0_reasonAgainst : Room := { frames := 2, cells := 0, slots := 0, locals := 45 }
abbrev MX0_reasonAgainst : mj_M := (RX0, 4, wsX0_reasonAgainst, rmX0_reasonAgainst, false, none)
abbrev rmX0_setToWork : Room := { frames := 1, cells := 0, slots := 0, locals := 22 }
abbrev MX0_setToWork : mj_M := (RX0, 4, wsX0_setToWork, rmX0_setToWork, false, none)
abbrev rmX0_sharesPlace : Room := { frames := 1, cells := 0, slots := 0, locals := 21 }
abbrev MX0_sharesPlace : mj_M := (RX0, 2, wsX0_sharesPlace, rmX0_sharesPlace, false, none)
abbrev rmX0_shortBy : Room := { frames := 1, cells := 0, slots := 0, locals := 21 }
abbrev MX0_shortBy : mj_M := (RX0, 2, wsX0_shortBy, rmX0_shortBy, false, none)
abbrev rmX0_sum : Room := { frames := 1, cells := 0, slots := 0, locals := 21 }
abbrev MX0_sum : mj_M := (RX0, 5, wsX0_sum, rmX0_sum, false, none)
abbrev rmX0_swap : Room := { frames := 1, cells := 0, slots := 0, locals := 22 }
abbrev MX0_swap : mj_M := (RX0, 4, wsX0_swap, rmX0_swap, false, none)
abbrev rmX0_turnSnow : Room := { frames := 3, cells := 0, slots := 0, locals := 66 }
abbrev MX0_turnSnow : mj_M := (RX0, 2, wsX0_turnSnow, rmX0_turnSnow, false, none)
abbrev rmX0_turvesOn : Room := { frames := 1, cells := 0, slots := 0, locals := 21 }
abbrev MX0_turvesOn : mj_M := (RX0, 7, wsX0_turvesOn, rmX0_turvesOn, false, none)
abbrev rmX0_turvesOnBanks : Room := { frames := 2, cells := 0, slots := 0, locals := 47 }
abbrev MX0_turvesOnBanks : mj_M := (RX0, 1, wsX0_turvesOnBanks, rmX0_turvesOnBanks, false, none)
abbrev rmX0_weather : Room := { frames := 3, cells := 0, slots := 0, locals := 68 }
abbrev MX0_weather : mj_M := (RX0, 3, wsX0_weather, rmX0_weather, false, none)
abbrev rmX0_wetAgain : Room := { frames := 2, cells := 0, slots := 0, locals := 44 }
abbrev MX0_wetAgain : mj_M := (RX0, 4, wsX0_wetAgain, rmX0_wetAgain, false, none)
abbrev rmX0_willBeShortBy : Room := { frames := 2, cells := 0, slots := 0, locals := 47 }
abbrev MX0_willBeShortBy : mj_M := (RX0, 2, wsX0_willBeShortBy, rmX0_willBeShortBy, false, none)
abbrev rmX0_willBeShortByTheBook : Room := { frames := 1, cells := 0, slots := 0, locals := 21 }
abbrev MX0_willBeShortByTheBook : mj_M := (RX0, 4, wsX0_willBeShortByTheBook, rmX0_willBeShortByTheBook, false, none)
theorem kX0_add_X0_at : mj_cwV MX0_add 30 RX0 yX0_at wsX0_at rmX0_at 1 := ⟨_, _, _, _, gX0_add_X0_at, rfl, by decide +kernel, by decide⟩
theorem kX0_add_X0_put : mj_cwV MX0_add 15 RX0 yX0_put wsX0_put rmX0_put 2 := ⟨_, _, _, _, gX0_add_X0_put, rfl, by decide +kernel, by decide⟩
theorem fX0_at_11 : mj_fl MX0_at 11 0 0 := ⟨_, _, _, rfl, by decide +kernel, by decide, by decide +kernel⟩
theorem kX0_burn_X0_at : mj_cwV MX0_burn 30 RX0 yX0_at wsX0_at rmX0_at 1 := ⟨_, _, _, _, gX0_burn_X0_at, rfl, by decide +kernel, by decide⟩
theorem kX0_burn_Mmin : Cond.methodLink MX0_burn.1 65 Lib.Math.min.name ∈ MX0_burn.2.2.1 ∧ Cond.static Lib.Math.min.name ∈ MX0_burn.2.2.1 ∧ Cond.initialized "java/lang/Math" ∈ MX0_burn.2.2.1 ∧ Cond.code Lib.Math.min.name Lib.Math.min.code 2 (some .int) ∈ MX0_burn.2.2.1 := by decide +kernel
theorem kX0_burn_X0_add : mj_cwV MX0_burn 23 RX0 yX0_add wsX0_add rmX0_add 2 := ⟨_, _, _, _, gX0_burn_X0_add, rfl, by decide +kernel, by decide⟩
theorem kX0_cartHome_X0_plotOf : mj_cwS MX0_cartHome 19 yX0_plotOf wsX0_plotOf rmX0_plotOf 2 := ⟨_, _, _, _, gX0_cartHome_X0_plotOf, rfl, by decide +kernel, by decide⟩
theorem kX0_cartHome_X0_at : mj_cwV MX0_cartHome 30 RX0 yX0_at wsX0_at rmX0_at 1 := ⟨_, _, _, _, gX0_cartHome_X0_at, rfl, by decide +kernel, by decide⟩
theorem kX0_cartHome_Mmin : Cond.methodLink MX0_cartHome.1 65 Lib.Math.min.name ∈ MX0_cartHome.2.2.1 ∧ Cond.static Lib.Math.min.name ∈ MX0_cartHome.2.2.1 ∧ Cond.initialized "java/lang/Math" ∈ MX0_cartHome.2.2.1 ∧ Cond.code Lib.Math.min.name Lib.Math.min.code 2 (some .int) ∈ MX0_cartHome.2.2.1 := by decide +kernel
theorem kX0_cartHome_X0_add : mj_cwV MX0_cartHome 23 RX0 yX0_add wsX0_add rmX0_add 2 := ⟨_, _, _, _, gX0_cartHome_X0_add, rfl, by decide +kernel, by decide⟩
theorem kX0_cartHome_X0_poorestWidow : mj_cwV MX0_cartHome 84 RX0 yX0_poorestWidow wsX0_poorestWidow rmX0_poorestWidow 0 := ⟨_, _, _, _, gX0_cartHome_X0_poorestWidow, rfl, by decide +kernel, by decide⟩
theorem kX0_copyFrom_X0_at : mj_cwV MX0_copyFrom 30 RX0 yX0_at wsX0_at rmX0_at 1 := ⟨_, _, _, _, gX0_copyFrom_X0_at, rfl, by decide +kernel, by decide⟩
theorem kX0_copyFrom_X0_put : mj_cwV MX0_copyFrom 15 RX0 yX0_put wsX0_put rmX0_put 2 := ⟨_, _, _, _, gX0_copyFrom_X0_put, rfl, by decide +kernel, by decide⟩
theorem kX0_cutTurves_X0_at : mj_cwV MX0_cutTurves 30 RX0 yX0_at wsX0_at rmX0_at 1 := ⟨_, _, _, _, gX0_cutTurves_X0_at, rfl, by decide +kernel, by decide⟩
theorem kX0_cutTurves_Mmin : Cond.methodLink MX0_cutTurves.1 65 Lib.Math.min.name ∈ MX0_cutTurves.2.2.1 ∧ Cond.static Lib.Math.min.name ∈ MX0_cutTurves.2.2.1 ∧ Cond.initialized "java/lang/Math" ∈ MX0_cutTurves.2.2.1 ∧ Cond.code Lib.Math.min.name Lib.Math.min.code 2 (some .int) ∈ MX0_cutTurves.2.2.1 := by decide +kernel
theorem kX0_cutTurves_X0_add : mj_cwV MX0_cutTurves 23 RX0 yX0_add wsX0_add rmX0_add 2 := ⟨_, _, _, _, gX0_cutTurves_X0_add, rfl, by decide +kernel, by decide⟩
theorem kX0_cutTurves_X0_plotOf : mj_cwS MX0_cutTurves 19 yX0_plotOf wsX0_plotOf rmX0_plotOf 2 := ⟨_, _, _, _, gX0_cutTurves_X0_plotOf, rfl, by decide +kernel, by decide⟩
theorem kX0_cuttersAt_X0_at : mj_cwV MX0_cuttersAt 30 RX0 yX0_at wsX0_at rmX0_at 1 := ⟨_, _, _, _, gX0_cuttersAt_X0_at, rfl, by decide +kernel, by decide⟩
theorem kX0_cuttersAtWork_X0_cuttersOnBank : mj_cwV MX0_cuttersAtWork 37 RX0 yX0_cuttersOnBank wsX0_cuttersOnBank rmX0_cuttersOnBank 1 := ⟨_, _, _, _, gX0_cuttersAtWork_X0_cuttersOnBank, rfl, by decide +kernel, by decide⟩
theorem kX0_cuttersOnBank_X0_cuttersAt : mj_cwV MX0_cuttersOnBank 34 RX0 yX0_cuttersAt wsX0_cuttersAt rmX0_cuttersAt 2 := ⟨_, _, _, _, gX0_cuttersOnBank_X0_cuttersAt, rfl, by decide +kernel, by decide⟩
theorem kX0_dryOut_X0_at : mj_cwV MX0_dryOut 30 RX0 yX0_at wsX0_at rmX0_at 1 := ⟨_, _, _, _, gX0_dryOut_X0_at, rfl, by decide +kernel, by decide⟩
theorem kX0_dryOut_Mmin : Cond.methodLink MX0_dryOut.1 65 Lib.Math.min.name ∈ MX0_dryOut.2.2.1 ∧ Cond.static Lib.Math.min.name ∈ MX0_dryOut.2.2.1 ∧ Cond.initialized "java/lang/Math" ∈ MX0_dryOut.2.2.1 ∧ Cond.code Lib.Math.min.name Lib.Math.min.code 2 (some .int) ∈ MX0_dryOut.2.2.1 := by decide +kernel
theorem kX0_dryOut_X0_halfRoundedUp : mj_cwS MX0_dryOut 78 yX0_halfRoundedUp wsX0_halfRoundedUp rmX0_halfRoundedUp 1 := ⟨_, _, _, _, gX0_dryOut_X0_halfRoundedUp, rfl, by decide +kernel, by decide⟩
theorem kX0_dryOut_X0_add : mj_cwV MX0_dryOut 23 RX0 yX0_add wsX0_add rmX0_add 2 := ⟨_, _, _, _, gX0_dryOut_X0_add, rfl, by decide +kernel, by decide⟩
theorem kX0_goCarts_X0_at : mj_cwV MX0_goCarts 30 RX0 yX0_at wsX0_at rmX0_at 1 := ⟨_, _, _, _, gX0_goCarts_X0_at, rfl, by decide +kernel, by decide⟩
theorem kX0_goCarts_J9_floorMod_7cf53 : mj_cwS MX0_goCarts 44 yJ9_floorMod_7cf53 wsJ9_floorMod_7cf53 rmJ9_floorMod_7cf53 2 := ⟨_, _, _, _, gX0_goCarts_J9_floorMod_7cf53, rfl, by decide +kernel, by decide⟩
theorem kX0_goCarts_X0_cartHome : mj_cwV MX0_goCarts 81 RX0 yX0_cartHome wsX0_cartHome rmX0_cartHome 3 := ⟨_, _, _, _, gX0_goCarts_X0_cartHome, rfl, by decide +kernel, by decide⟩
theorem kX0_hearthsShort_X0_shortBy : mj_cwV MX0_hearthsShort 90 RX0 yX0_shortBy wsX0_shortBy rmX0_shortBy 1 := ⟨_, _, _, _, gX0_hearthsShort_X0_shortBy, rfl, by decide +kernel, by decide⟩
theorem kX0_hearthsThatWillBeShort_X0_willBeShortBy : mj_cwV MX0_hearthsThatWillBeShort 93 RX0 yX0_willBeShortBy wsX0_willBeShortBy rmX0_willBeShortBy 1 := ⟨_, _, _, _, gX0_hearthsThatWillBeShort_X0_willBeShortBy, rfl, by decide +kernel, by decide⟩
theorem kX0_init_X0_put : mj_cwV MX0_init 15 RX0 yX0_put wsX0_put rmX0_put 2 := ⟨_, _, _, _, gX0_init_X0_put, rfl, by decide +kernel, by decide⟩
theorem kX0_init_X0_plotOf : mj_cwS MX0_init 19 yX0_plotOf wsX0_plotOf rmX0_plotOf 2 := ⟨_, _, _, _, gX0_init_X0_plotOf, rfl, by decide +kernel, by decide⟩
theorem kX0_init_X0_add : mj_cwV MX0_init 23 RX0 yX0_add wsX0_add rmX0_add 2 := ⟨_, _, _, _, gX0_init_X0_add, rfl, by decide +kernel, by decide⟩
theorem kX0_init_X0_letRest : mj_cwV MX0_init 26 RX0 yX0_letRest wsX0_letRest rmX0_letRest 1 := ⟨_, _, _, _, gX0_init_X0_letRest, rfl, by decide +kernel, by decide⟩
theorem pX0_init_11 : mj_flp MX0_init 11 0 0 (.array .int) := ⟨_, _, _, tyX0, rfl, by decide +kernel, by decide, by decide +kernel, tyX0_ok, nmX0, by decide +kernel, by decide +kernel⟩
theorem kX0_letRest_X0_setToWork : mj_cwV MX0_letRest 40 RX0 yX0_setToWork wsX0_setToWork rmX0_setToWork 3 := ⟨_, _, _, _, gX0_letRest_X0_setToWork, rfl, by decide +kernel, by decide⟩
theorem kX0_ofAll_X0_at : mj_cwV MX0_ofAll 30 RX0 yX0_at wsX0_at rmX0_at 1 := ⟨_, _, _, _, gX0_ofAll_X0_at, rfl, by decide +kernel, by decide⟩
theorem kX0_ofAll_X0_cuttersAtWork : mj_cwV MX0_ofAll 99 RX0 yX0_cuttersAtWork wsX0_cuttersAtWork rmX0_cuttersAtWork 0 := ⟨_, _, _, _, gX0_ofAll_X0_cuttersAtWork, rfl, by decide +kernel, by decide⟩
theorem kX0_ofAll_X0_sum : mj_cwV MX0_ofAll 102 RX0 yX0_sum wsX0_sum rmX0_sum 2 := ⟨_, _, _, _, gX0_ofAll_X0_sum, rfl, by decide +kernel, by decide⟩
theorem kX0_ofAll_X0_turvesOnBanks : mj_cwV MX0_ofAll 105 RX0 yX0_turvesOnBanks wsX0_turvesOnBanks rmX0_turvesOnBanks 0 := ⟨_, _, _, _, gX0_ofAll_X0_turvesOnBanks, rfl, by decide +kernel, by decide⟩
theorem kX0_ofAll_X0_hearthsShort : mj_cwV MX0_ofAll 108 RX0 yX0_hearthsShort wsX0_hearthsShort rmX0_hearthsShort 0 := ⟨_, _, _, _, gX0_ofAll_X0_hearthsShort, rfl, by decide +kernel, by decide⟩
theorem kX0_ofAll_X0_hearthsThatWillBeShort : mj_cwV MX0_ofAll 111 RX0 yX0_hearthsThatWillBeShort wsX0_hearthsThatWillBeShort rmX0_hearthsThatWillBeShort 0 := ⟨_, _, _, _, gX0_ofAll_X0_hearthsThatWillBeShort, rfl, by decide +kernel, by decide⟩
theorem kX0_ofBank_X0_at : mj_cwV MX0_ofBank 30 RX0 yX0_at wsX0_at rmX0_at 1 := ⟨_, _, _, _, gX0_ofBank_X0_at, rfl, by decide +kernel, by decide⟩
theorem kX0_ofBank_X0_cuttersOnBank : mj_cwV MX0_ofBank 37 RX0 yX0_cuttersOnBank wsX0_cuttersOnBank rmX0_cuttersOnBank 1 := ⟨_, _, _, _, gX0_ofBank_X0_cuttersOnBank, rfl, by decide +kernel, by decide⟩
theorem kX0_ofBank_X0_plotOf : mj_cwS MX0_ofBank 19 yX0_plotOf wsX0_plotOf rmX0_plotOf 2 := ⟨_, _, _, _, gX0_ofBank_X0_plotOf, rfl, by decide +kernel, by decide⟩
theorem kX0_ofBank_X0_turvesOn : mj_cwV MX0_ofBank 68 RX0 yX0_turvesOn wsX0_turvesOn rmX0_turvesOn 3 := ⟨_, _, _, _, gX0_ofBank_X0_turvesOn, rfl, by decide +kernel, by decide⟩
theorem kX0_ofCutter_X0_at : mj_cwV MX0_ofCutter 30 RX0 yX0_at wsX0_at rmX0_at 1 := ⟨_, _, _, _, gX0_ofCutter_X0_at, rfl, by decide +kernel, by decide⟩
theorem kX0_ofHearth_X0_at : mj_cwV MX0_ofHearth 30 RX0 yX0_at wsX0_at rmX0_at 1 := ⟨_, _, _, _, gX0_ofHearth_X0_at, rfl, by decide +kernel, by decide⟩
theorem kX0_ofHearth_X0_plotOf : mj_cwS MX0_ofHearth 19 yX0_plotOf wsX0_plotOf rmX0_plotOf 2 := ⟨_, _, _, _, gX0_ofHearth_X0_plotOf, rfl, by decide +kernel, by decide⟩
theorem kX0_ofHearth_X0_turvesOn : mj_cwV MX0_ofHearth 68 RX0 yX0_turvesOn wsX0_turvesOn rmX0_turvesOn 3 := ⟨_, _, _, _, gX0_ofHearth_X0_turvesOn, rfl, by decide +kernel, by decide⟩
theorem kX0_ofHearth_X0_shortBy : mj_cwV MX0_ofHearth 90 RX0 yX0_shortBy wsX0_shortBy rmX0_shortBy 1 := ⟨_, _, _, _, gX0_ofHearth_X0_shortBy, rfl, by decide +kernel, by decide⟩
theorem kX0_ofHearth_X0_willBeShortBy : mj_cwV MX0_ofHearth 93 RX0 yX0_willBeShortBy wsX0_willBeShortBy rmX0_willBeShortBy 1 := ⟨_, _, _, _, gX0_ofHearth_X0_willBeShortBy, rfl, by decide +kernel, by decide⟩
theorem kX0_ofHearth_X0_willBeShortByTheBook : mj_cwV MX0_ofHearth 96 RX0 yX0_willBeShortByTheBook wsX0_willBeShortByTheBook rmX0_willBeShortByTheBook 1 := ⟨_, _, _, _, gX0_ofHearth_X0_willBeShortByTheBook, rfl, by decide +kernel, by decide⟩
theorem kX0_ofPlot_X0_plotOf : mj_cwS MX0_ofPlot 19 yX0_plotOf wsX0_plotOf rmX0_plotOf 2 := ⟨_, _, _, _, gX0_ofPlot_X0_plotOf, rfl, by decide +kernel, by decide⟩
theorem kX0_ofPlot_X0_at : mj_cwV MX0_ofPlot 30 RX0 yX0_at wsX0_at rmX0_at 1 := ⟨_, _, _, _, gX0_ofPlot_X0_at, rfl, by decide +kernel, by decide⟩
theorem kX0_ofPlot_X0_cuttersAt : mj_cwV MX0_ofPlot 34 RX0 yX0_cuttersAt wsX0_cuttersAt rmX0_cuttersAt 2 := ⟨_, _, _, _, gX0_ofPlot_X0_cuttersAt, rfl, by decide +kernel, by decide⟩
theorem kX0_passDays_X0_add : mj_cwV MX0_passDays 23 RX0 yX0_add wsX0_add rmX0_add 2 := ⟨_, _, _, _, gX0_passDays_X0_add, rfl, by decide +kernel, by decide⟩
theorem kX0_passDays_X0_at : mj_cwV MX0_passDays 30 RX0 yX0_at wsX0_at rmX0_at 1 := ⟨_, _, _, _, gX0_passDays_X0_at, rfl, by decide +kernel, by decide⟩
theorem kX0_passDays_X0_weather : mj_cwV MX0_passDays 49 RX0 yX0_weather wsX0_weather rmX0_weather 1 := ⟨_, _, _, _, gX0_passDays_X0_weather, rfl, by decide +kernel, by decide⟩
theorem kX0_passDays_X0_burn : mj_cwV MX0_passDays 52 RX0 yX0_burn wsX0_burn rmX0_burn 0 := ⟨_, _, _, _, gX0_passDays_X0_burn, rfl, by decide +kernel, by decide⟩
theorem kX0_passDays_X0_cutTurves : mj_cwV MX0_passDays 55 RX0 yX0_cutTurves wsX0_cutTurves rmX0_cutTurves 0 := ⟨_, _, _, _, gX0_passDays_X0_cutTurves, rfl, by decide +kernel, by decide⟩
theorem kX0_passDays_X0_rainOf : mj_cwV MX0_passDays 58 RX0 yX0_rainOf wsX0_rainOf rmX0_rainOf 1 := ⟨_, _, _, _, gX0_passDays_X0_rainOf, rfl, by decide +kernel, by decide⟩
theorem kX0_passDays_X0_goCarts : mj_cwV MX0_passDays 61 RX0 yX0_goCarts wsX0_goCarts rmX0_goCarts 0 := ⟨_, _, _, _, gX0_passDays_X0_goCarts, rfl, by decide +kernel, by decide⟩
theorem kX0_poorestWidow_X0_at : mj_cwV MX0_poorestWidow 30 RX0 yX0_at wsX0_at rmX0_at 1 := ⟨_, _, _, _, gX0_poorestWidow_X0_at, rfl, by decide +kernel, by decide⟩
theorem fX0_put_11 : mj_fl MX0_put 11 0 0 := ⟨_, _, _, rfl, by decide +kernel, by decide, by decide +kernel⟩
theorem kX0_rainOf_J9_floorMod_7cf53 : mj_cwS MX0_rainOf 44 yJ9_floorMod_7cf53 wsJ9_floorMod_7cf53 rmJ9_floorMod_7cf53 2 := ⟨_, _, _, _, gX0_rainOf_J9_floorMod_7cf53, rfl, by decide +kernel, by decide⟩
theorem kX0_rainOf_X0_at : mj_cwV MX0_rainOf 30 RX0 yX0_at wsX0_at rmX0_at 1 := ⟨_, _, _, _, gX0_rainOf_X0_at, rfl, by decide +kernel, by decide⟩
theorem kX0_reasonAgainst_X0_plotOf : mj_cwS MX0_reasonAgainst 19 yX0_plotOf wsX0_plotOf rmX0_plotOf 2 := ⟨_, _, _, _, gX0_reasonAgainst_X0_plotOf, rfl, by decide +kernel, by decide⟩
theorem kX0_reasonAgainst_X0_at : mj_cwV MX0_reasonAgainst 30 RX0 yX0_at wsX0_at rmX0_at 1 := ⟨_, _, _, _, gX0_reasonAgainst_X0_at, rfl, by decide +kernel, by decide⟩
theorem kX0_reasonAgainst_X0_cuttersAt : mj_cwV MX0_reasonAgainst 34 RX0 yX0_cuttersAt wsX0_cuttersAt rmX0_cuttersAt 2 := ⟨_, _, _, _, gX0_reasonAgainst_X0_cuttersAt, rfl, by decide +kernel, by decide⟩
theorem kX0_setToWork_X0_put : mj_cwV MX0_setToWork 15 RX0 yX0_put wsX0_put rmX0_put 2 := ⟨_, _, _, _, gX0_setToWork_X0_put, rfl, by decide +kernel, by decide⟩
theorem kX0_sharesPlace_X0_plotOf : mj_cwS MX0_sharesPlace 19 yX0_plotOf wsX0_plotOf rmX0_plotOf 2 := ⟨_, _, _, _, gX0_sharesPlace_X0_plotOf, rfl, by decide +kernel, by decide⟩
theorem kX0_shortBy_X0_at : mj_cwV MX0_shortBy 30 RX0 yX0_at wsX0_at rmX0_at 1 := ⟨_, _, _, _, gX0_shortBy_X0_at, rfl, by decide +kernel, by decide⟩
theorem kX0_shortBy_Mmax : Cond.methodLink MX0_shortBy.1 87 Lib.Math.max.name ∈ MX0_shortBy.2.2.1 ∧ Cond.static Lib.Math.max.name ∈ MX0_shortBy.2.2.1 ∧ Cond.initialized "java/lang/Math" ∈ MX0_shortBy.2.2.1 ∧ Cond.code Lib.Math.max.name Lib.Math.max.code 2 (some .int) ∈ MX0_shortBy.2.2.1 := by decide +kernel
theorem kX0_sum_X0_at : mj_cwV MX0_sum 30 RX0 yX0_at wsX0_at rmX0_at 1 := ⟨_, _, _, _, gX0_sum_X0_at, rfl, by decide +kernel, by decide⟩
theorem kX0_swap_X0_at : mj_cwV MX0_swap 30 RX0 yX0_at wsX0_at rmX0_at 1 := ⟨_, _, _, _, gX0_swap_X0_at, rfl, by decide +kernel, by decide⟩
theorem kX0_swap_X0_put : mj_cwV MX0_swap 15 RX0 yX0_put wsX0_put rmX0_put 2 := ⟨_, _, _, _, gX0_swap_X0_put, rfl, by decide +kernel, by decide⟩
theorem kX0_turnSnow_X0_at : mj_cwV MX0_turnSnow 30 RX0 yX0_at wsX0_at rmX0_at 1 := ⟨_, _, _, _, gX0_turnSnow_X0_at, rfl, by decide +kernel, by decide⟩
theorem kX0_turnSnow_X0_put : mj_cwV MX0_turnSnow 15 RX0 yX0_put wsX0_put rmX0_put 2 := ⟨_, _, _, _, gX0_turnSnow_X0_put, rfl, by decide +kernel, by decide⟩
theorem kX0_turnSnow_X0_letRest : mj_cwV MX0_turnSnow 26 RX0 yX0_letRest wsX0_letRest rmX0_letRest 1 := ⟨_, _, _, _, gX0_turnSnow_X0_letRest, rfl, by decide +kernel, by decide⟩
theorem kX0_turvesOn_X0_at : mj_cwV MX0_turvesOn 30 RX0 yX0_at wsX0_at rmX0_at 1 := ⟨_, _, _, _, gX0_turvesOn_X0_at, rfl, by decide +kernel, by decide⟩
theorem kX0_turvesOnBanks_X0_turvesOn : mj_cwV MX0_turvesOnBanks 68 RX0 yX0_turvesOn wsX0_turvesOn rmX0_turvesOn 3 := ⟨_, _, _, _, gX0_turvesOnBanks_X0_turvesOn, rfl, by decide +kernel, by decide⟩
theorem kX0_weather_X0_turvesOn : mj_cwV MX0_weather 68 RX0 yX0_turvesOn wsX0_turvesOn rmX0_turvesOn 3 := ⟨_, _, _, _, gX0_weather_X0_turvesOn, rfl, by decide +kernel, by decide⟩
theorem kX0_weather_X0_wetAgain : mj_cwV MX0_weather 72 RX0 yX0_wetAgain wsX0_wetAgain rmX0_wetAgain 1 := ⟨_, _, _, _, gX0_weather_X0_wetAgain, rfl, by decide +kernel, by decide⟩
theorem kX0_weather_X0_dryOut : mj_cwV MX0_weather 75 RX0 yX0_dryOut wsX0_dryOut rmX0_dryOut 1 := ⟨_, _, _, _, gX0_weather_X0_dryOut, rfl, by decide +kernel, by decide⟩
theorem kX0_wetAgain_X0_at : mj_cwV MX0_wetAgain 30 RX0 yX0_at wsX0_at rmX0_at 1 := ⟨_, _, _, _, gX0_wetAgain_X0_at, rfl, by decide +kernel, by decide⟩
theorem kX0_wetAgain_X0_halfRoundedUp : mj_cwS MX0_wetAgain 78 yX0_halfRoundedUp wsX0_halfRoundedUp rmX0_halfRoundedUp 1 := ⟨_, _, _, _, gX0_wetAgain_X0_halfRoundedUp, rfl, by decide +kernel, by decide⟩
theorem kX0_wetAgain_X0_add : mj_cwV MX0_wetAgain 23 RX0 yX0_add wsX0_add rmX0_add 2 := ⟨_, _, _, _, gX0_wetAgain_X0_add, rfl, by decide +kernel, by decide⟩
theorem kX0_willBeShortBy_X0_at : mj_cwV MX0_willBeShortBy 30 RX0 yX0_at wsX0_at rmX0_at 1 := ⟨_, _, _, _, gX0_willBeShortBy_X0_at, rfl, by decide +kernel, by decide⟩
theorem kX0_willBeShortBy_X0_plotOf : mj_cwS MX0_willBeShortBy 19 yX0_plotOf wsX0_plotOf rmX0_plotOf 2 := ⟨_, _, _, _, gX0_willBeShortBy_X0_plotOf, rfl, by decide +kernel, by decide⟩
theorem kX0_willBeShortBy_X0_turvesOn : mj_cwV MX0_willBeShortBy 68 RX0 yX0_turvesOn wsX0_turvesOn rmX0_turvesOn 3 := ⟨_, _, _, _, gX0_willBeShortBy_X0_turvesOn, rfl, by decide +kernel, by decide⟩
theorem kX0_willBeShortBy_Mmax : Cond.methodLink MX0_willBeShortBy.1 87 Lib.Math.max.name ∈ MX0_willBeShortBy.2.2.1 ∧ Cond.static Lib.Math.max.name ∈ MX0_willBeShortBy.2.2.1 ∧ Cond.initialized "java/lang/Math" ∈ MX0_willBeShortBy.2.2.1 ∧ Cond.code Lib.Math.max.name Lib.Math.max.code 2 (some .int) ∈ MX0_willBeShortBy.2.2.1 := by decide +kernel
theorem kX0_willBeShortByTheBook_X0_at : mj_cwV MX0_willBeShortByTheBook 30 RX0 yX0_at wsX0_at rmX0_at 1 := ⟨_, _, _, _, gX0_willBeShortByTheBook_X0_at, rfl, by decide +kernel, by decide⟩
theorem kX0_willBeShortByTheBook_Mmax : Cond.methodLink MX0_willBeShortByTheBook.1 87 Lib.Math.max.name ∈ MX0_willBeShortByTheBook.2.2.1 ∧ Cond.static Lib.Math.max.name ∈ MX0_willBeShortByTheBook.2.2.1 ∧ Cond.initialized "java/lang/Math" ∈ MX0_willBeShortByTheBook.2.2.1 ∧ Cond.code Lib.Math.max.name Lib.Math.max.code 2 (some .int) ∈ MX0_willBeShortByTheBook.2.2.1 := by decide +kernel
end
section
/-! WHAT THE METHODS COMPUTE: plain functions over the state, a row of numbers in the reference's order -/
abbrev mj_S : Type := Nat → Int32
def itr {α : Type} (g : Nat → α → α) : Nat → Nat → α → α
  | 0, _, a => a
  | d + 1, c, a => itr g d (c + 1) (g c a)
theorem itr_0 {α : Type} (g : Nat → α → α) (c : Nat) (a : α) : itr g 0 c a = a := rfl
theorem itr_s {α : Type} (g : Nat → α → α) (d c : Nat) (a : α) : itr g (d + 1) c a = itr g d (c + 1) (g c a) := rfl
theorem itr_inv {α : Type} {g : Nat → α → α} (I : Nat → α → Prop) (h : ∀ c a, I c a → I (c + 1) (g c a)) : ∀ d c a, I c a → I (c + d) (itr g d c a)
  | 0, _, _, h0 => h0
  | d + 1, c, a, h0 => by
    rw [itr_s, show c + (d + 1) = (c + 1) + d by omega]
    exact itr_inv I h d (c + 1) (g c a) (h c a h0)
theorem itr_last {α : Type} (g : Nat → α → α) : ∀ d c a, itr g (d + 1) c a = g (c + d) (itr g d c a)
  | 0, _, _ => rfl
  | d + 1, c, a => by
    rw [itr_s, itr_last g d (c + 1) (g c a), itr_s, show c + 1 + d = c + (d + 1) by omega]
theorem itr_congr {α : Type} {g g' : Nat → α → α} : ∀ (d c : Nat) (a : α), (∀ k, c ≤ k → k < c + d → ∀ x, g k x = g' k x) → itr g d c a = itr g' d c a
  | 0, _, _, _ => rfl
  | d + 1, c, a, h => by
    rw [itr_s, itr_s, h c (Nat.le_refl _) (by omega) a]
    exact itr_congr d (c + 1) _ (fun k h1 h2 x => h k (by omega) (by omega) x)
def mn (a b : Int32) : Int32 := if b < a then b else a
theorem mn_flip (a b : Int32) : (if a < b then a else b) = mn a b := by
  unfold mn
  by_cases h1 : a < b <;> by_cases h2 : b < a <;> simp only [h1, h2, if_true, if_false]
  · exact absurd (Int32.lt_trans h1 h2) Int32.lt_irrefl
  · exact Int32.le_antisymm (Int32.not_lt.mp h1) (Int32.not_lt.mp h2)
/-- the class's row: four more numbers, the commons, behind the 53rd -/
def row (q f : mj_S) : mj_S := fun k => if k < 53 then f k else if k < 57 then q (k - 53) else f (k - 4)
theorem row_lo {q f : mj_S} {j : Nat} (h : j < 53) : row q f j = f j := by simp [row, h]
theorem row_hi {q f : mj_S} {j j' : Nat} (e : j = j' + 4) (h : 53 ≤ j') : row q f j = f j' := by
  subst e; simp only [row]; rw [if_neg (by omega), if_neg (by omega)]; congr 1
theorem row_q {q f : mj_S} {j i : Nat} (e : j = 53 + i) (h : i < 4) : row q f j = q i := by
  subst e; simp only [row]; rw [if_neg (by omega), if_pos (by omega)]; congr 1; omega
theorem row_put_lo {q f : mj_S} {j : Nat} {v : Int32} (h : j < 53) : upd (row q f) j v = row q (upd f j v) := by
  funext k
  simp only [upd, row]
  by_cases e : k = j
  · subst e; simp [h]
  · by_cases h1 : k < 53
    · simp [e, h1]
    · have : ¬ k - 4 = j ∨ k < 57 := by omega
      rcases this with h2 | h2
      · simp [e, h1, h2]
      · simp [e, h1, h2]
theorem row_put_hi {q f : mj_S} {j j' : Nat} {v : Int32} (e : j = j' + 4) (h : 53 ≤ j') : upd (row q f) j v = row q (upd f j' v) := by
  subst e
  funext k
  simp only [upd, row]
  by_cases e : k = j' + 4
  · subst e
    rw [if_pos rfl, if_neg (by omega), if_neg (by omega), if_pos (by omega)]
  · rw [if_neg e]
    by_cases h1 : k < 53
    · rw [if_pos h1, if_pos h1, if_neg (by omega)]
    · rw [if_neg h1, if_neg h1]
      by_cases h2 : k < 57
      · rw [if_pos h2, if_pos h2]
      · rw [if_neg h2, if_neg h2, if_neg (by omega)]
theorem row_put_q {q f : mj_S} {j i : Nat} {v : Int32} (e : j = 53 + i) (h : i < 4) : upd (row q f) j v = row (upd q i v) f := by
  subst e
  funext k
  simp only [upd, row]
  by_cases e : k = 53 + i
  · subst e
    rw [if_pos rfl, if_neg (by omega), if_pos (by omega), if_pos (by omega)]
  · rw [if_neg e]
    by_cases h1 : k < 53
    · rw [if_pos h1, if_pos h1]
    · rw [if_neg h1, if_neg h1]
      by_cases h2 : k < 57
      · rw [if_pos h2, if_pos h2, if_neg (by omega)]
      · rw [if_neg h2, if_neg h2]
theorem upd_s (f : mj_S) (j : Nat) (v : Int32) : upd f j v j = v := by simp [upd]
theorem upd_n {f : mj_S} {j k : Nat} {v : Int32} (h : k ≠ j) : upd f j v k = f k := by simp [upd, h]
theorem upd_id (f : mj_S) (j : Nat) : upd f j (f j) = f := by funext k; simp only [upd]; split <;> simp_all
theorem upd_comm {f : mj_S} {i j : Nat} {u v : Int32} (h : i ≠ j) : upd (upd f i u) j v = upd (upd f j v) i u := by
  funext k; simp only [upd]
  by_cases h1 : k = j
  · subst h1; rw [if_pos rfl, if_neg (by omega), if_pos rfl]
  · rw [if_neg h1]; by_cases h2 : k = i
    · subst h2; rw [if_pos rfl, if_pos rfl]
    · rw [if_neg h2, if_neg h2, if_neg h1]
theorem upd_upd (f : mj_S) (j : Nat) (u v : Int32) : upd (upd f j u) j v = upd f j v := by funext k; simp only [upd]; split <;> rfl
-- sums and counts
def s_sum (f : mj_S) (a n : Nat) : Int32 := itr (fun i x => x + f (a + i)) n 0 0
def s_cnt (f : mj_S) (h b : Int32) : Int32 := itr (fun c a => if f (139 + c) = h ∧ f (145 + c) = b then a + 1 else a) 6 0 0
def s_cntB (f : mj_S) (b : Int32) : Int32 := itr (fun h a => a + s_cnt f (nI h) b) 5 0 0
def s_cntA (f : mj_S) : Int32 := itr (fun b a => a + s_cntB f (nI b)) 4 0 0
def s_why (f : mj_S) (h b : Nat) : Int32 := if f (53 + b + 4 * h) = 0 then 1 else if f (53 + b + 4 * h) ≤ s_cnt f (nI h) (nI b) then 2 else if f (45 + b) = 0 then 3 else if f 1 = 1 then 4 else 0
def s_setw (f : mj_S) (c : Nat) (h b : Int32) : mj_S := upd (upd f (139 + c) h) (145 + c) b
def s_turn (f : mj_S) : mj_S := if 1 - f 1 = 1 then itr (fun c a => s_setw a c (-1) (-1)) 6 0 (upd f 1 (1 - f 1)) else upd f 1 (1 - f 1)
-- a day
def s_rain (f : mj_S) (d : Nat) : Nat := (7 * d + (f 2).toNatClampNeg) % 10
def s_cut (c : Nat) (f : mj_S) : mj_S :=
  if f (139 + c) = -1 then f else
    let h := (f (139 + c)).toNatClampNeg
    let b := (f (145 + c)).toNatClampNeg
    let m := mn (f (133 + c)) (f (45 + b))
    let f1 := upd f (45 + b) (f (45 + b) - m)
    let f2 := upd f1 (73 + b + 4 * h) (f1 (73 + b + 4 * h) + m)
    let f3 := upd f2 (20 + h) (f2 (20 + h) + m)
    upd f3 (151 + c) (f3 (151 + c) + m)
def s_cuts (f : mj_S) : mj_S := itr s_cut 6 0 f
def s_soak (p : Nat) (f : mj_S) : mj_S := upd (upd (upd f (113 + p) (f (113 + p) - (f (113 + p) + 1) / 2)) (93 + p) (f (93 + p) - (f (93 + p) + 1) / 2)) (73 + p) (f (73 + p) + ((f (113 + p) + 1) / 2 + (f (93 + p) + 1) / 2))
def s_dry (p : Nat) (f : mj_S) : mj_S := upd (upd (upd f (73 + p) (f (73 + p) - (f (73 + p) + 1) / 2)) (93 + p) (f (93 + p) - mn (f (93 + p) / 3 + 1) (f (93 + p)) + (f (73 + p) + 1) / 2)) (113 + p) (f (113 + p) + mn (f (93 + p) / 3 + 1) (f (93 + p)))
def s_wth (r : Nat) (f : mj_S) : mj_S := if 6 < r then itr s_soak 20 0 f else if r < 4 then itr s_dry 20 0 f else f
def s_poor (f : mj_S) : Int32 := itr (fun h a => if f (5 + h) = 1 ∧ (a = -1 ∨ f (15 + h) < f (15 + a.toNatClampNeg)) then nI h else a) 5 0 (-1)
def s_bring (f : mj_S) (h b : Nat) (m : Int32) : mj_S :=
  let f1 := upd f (113 + b + 4 * h) (f (113 + b + 4 * h) - m)
  let f2 := upd f1 (15 + h) (f1 (15 + h) + m)
  if f2 (5 + h) = 1 then f2 else if s_poor f2 = -1 then f2 else
    let g := m * f2 3 / 100
    let v := (s_poor f2).toNatClampNeg
    let f3 := upd f2 (15 + h) (f2 (15 + h) - g)
    let f4 := upd f3 (30 + h) (f3 (30 + h) + g)
    let f5 := upd f4 (15 + v) (f4 (15 + v) + g)
    upd f5 (25 + v) (f5 (25 + v) + g)
def s_cart1 (d b : Nat) (k : Nat) (p : mj_S × Int32) : mj_S × Int32 := (s_bring p.1 ((d + k) % 5) b (mn (p.1 (113 + b + 4 * ((d + k) % 5))) p.2), p.2 - mn (p.1 (113 + b + 4 * ((d + k) % 5))) p.2)
def s_cart (d : Nat) (b : Nat) (f : mj_S) : mj_S × Int32 := itr (s_cart1 d b) 5 0 (f, f (49 + b))
def s_carts1 (d : Nat) (b : Nat) (p : mj_S × Int32) : mj_S × Int32 := ((s_cart d b p.1).1, p.2 + (p.1 (49 + b) - (s_cart d b p.1).2))
def s_carts (d : Nat) (f : mj_S) : mj_S × Int32 := itr (s_carts1 d) 4 0 (f, 0)
def s_burn1 (h : Nat) (f : mj_S) : mj_S :=
  let m := mn (f 4) (f (15 + h))
  let f1 := upd f (15 + h) (f (15 + h) - m)
  let f2 := upd f1 (35 + h) (f1 (35 + h) + m)
  upd f2 (40 + h) (f2 (40 + h) + (f 4 - m))
def s_burn (f : mj_S) : mj_S := itr s_burn1 5 0 f
def s_day (f : mj_S) : mj_S × Int32 :=
  let f0 := upd f 0 (f 0 + 1)
  let d := (f0 0).toNatClampNeg
  if f 1 = 1 then (s_burn (s_wth 0 f0), 0) else s_carts d (s_wth (s_rain f0 d) (s_cuts f0))
def s_days1 (_ : Nat) (p : mj_S × Int32) : mj_S × Int32 := ((s_day p.1).1, p.2 + (s_day p.1).2)
def s_days (n : Nat) (f : mj_S) : mj_S × Int32 := itr s_days1 n 0 (f, 0)
-- looks
def s_tv (f : mj_S) (p : Nat) : Int32 := f (73 + p) + f (93 + p) + f (113 + p)
def s_tvH (f : mj_S) (h : Nat) : Int32 := itr (fun b a => a + s_tv f (b + 4 * h)) 4 0 0
def s_tvB (f : mj_S) (b : Nat) : Int32 := itr (fun h a => a + s_tv f (b + 4 * h)) 5 0 0
def s_tvA (f : mj_S) : Int32 := itr (fun p a => a + s_tv f p) 20 0 0
def mx0 (v : Int32) : Int32 := if v < 0 then 0 else v
def s_sh (f : mj_S) (h : Nat) : Int32 := mx0 (f (10 + h) - f (15 + h))
def s_sh2 (f : mj_S) (h : Nat) : Int32 := mx0 (f (10 + h) - f (15 + h) - s_tvH f h)
def s_sh3 (f : mj_S) (h : Nat) : Int32 := mx0 (f (10 + h) - (f (20 + h) + f (25 + h) - f (30 + h) - f (35 + h)))
def s_shs (f : mj_S) : Int32 := itr (fun h a => if 0 < s_sh f h then a + 1 else a) 5 0 0
def s_shs2 (f : mj_S) : Int32 := itr (fun h a => if 0 < s_sh2 f h then a + 1 else a) 5 0 0
def s_ofH (f : mj_S) (h : Nat) : Nat → Int32
  | 0 => f (5 + h)
  | 1 => f (10 + h)
  | 2 => f (15 + h)
  | 3 => s_tvH f h
  | 4 => s_sh f h
  | 5 => s_sh2 f h
  | 6 => s_sh3 f h
  | 7 => f (20 + h)
  | 8 => f (25 + h)
  | 9 => f (30 + h)
  | 10 => f (35 + h)
  | _ => f (40 + h)
/-- q: what the commons of each bank are -/
def s_ofB (q f : mj_S) (b : Nat) : Nat → Int32
  | 0 => f (45 + b)
  | 1 => f (49 + b)
  | 2 => q b
  | 3 => s_cntB f (nI b)
  | _ => s_tvB f b
def s_ofP (f : mj_S) (h b : Nat) : Nat → Int32
  | 0 => f (53 + b + 4 * h)
  | 1 => f (73 + b + 4 * h)
  | 2 => f (93 + b + 4 * h)
  | 3 => f (113 + b + 4 * h)
  | _ => s_cnt f (nI h) (nI b)
def s_ofA (f : mj_S) : Nat → Int32
  | 0 => f 0
  | 1 => f 1
  | 2 => s_cntA f
  | 3 => s_sum f 45 4
  | 4 => s_tvA f
  | 5 => s_sum f 15 5
  | 6 => s_sum f 35 5
  | 7 => s_shs f
  | 8 => s_shs2 f
  | 9 => f 2
  | 10 => f 3
  | _ => f 4
end
section
/-! LAND: leaves, sums, counts -/
def LV (lp ap : Nat) (Ω : mj_S → mj_W) : Prop := ∀ f, (Ω f)[lp]? = some (.inr (0, [.ref ap])) ∧ (Ω f)[ap]? = some (.inl (.int, (161, .inl f))) ∧ ∀ g, (Ω f).set ap (.inl (.int, (161, .inl g))) = Ω g
theorem nx_xor (a b : Nat) : nI a ^^^ nI b = nI (a ^^^ b) := by
  apply Int32.toBitVec_inj.1
  show BitVec.ofNat 32 a ^^^ BitVec.ofNat 32 b = BitVec.ofNat 32 (a ^^^ b)
  apply BitVec.eq_of_getLsbD_eq
  intro i hi
  simp [hi]
section LA
variable {l : Launch} {lp ap : Nat} {Ω : mj_S → mj_W}
theorem c_fmod {w : mj_W} {a c : Nat} (ha : a < 2147483648) (hc : 0 < c ∧ c < 2147483648) : MC l yJ9_floorMod_7cf53 wsJ9_floorMod_7cf53 rmJ9_floorMod_7cf53 false [.int (nI (a)), .int (nI (c))] (w) (some (.int (nI (a % c)))) (w) := by
  refine mj_MC (cc := cJ9_floorMod_7cf53) (nl := 3) (ret := (some .int)) (by decide +kernel) rfl (⟨_, rfl, rfl⟩) (Nat.le_of_ble_eq_true rfl) ?_
  show GG l cJ9_floorMod_7cf53 MJ9_floorMod_7cf53 false (.inl ((some (.int (nI (a % c)))), w)) 0 [some (.int (nI (a))), some (.int (nI (c))), none] [] (w) 0 0
  refine G_iload_n dJ9_floorMod_7cf53_0 rfl ?_
  refine G_iload_n dJ9_floorMod_7cf53_1 rfl ?_
  refine G_iremN (a := a) (c := c) (s := ((a) % c)) dJ9_floorMod_7cf53_2 (by omega) (by omega) ?_
  refine G_istore_n dJ9_floorMod_7cf53_3 rfl (L' := [some (.int (nI (a))), some (.int (nI (c))), some (.int (nI (((a) % c))))]) rfl ?_
  refine G_iload_n dJ9_floorMod_7cf53_4 rfl ?_
  refine G_iload_n dJ9_floorMod_7cf53_5 rfl ?_
  refine G_ixor dJ9_floorMod_7cf53_6 ?_
  obtain ⟨x, hx, ex⟩ : ∃ x : Nat, x < 2147483648 ∧ nI a ^^^ nI c = nI x := ⟨a ^^^ c, Nat.xor_lt_two_pow (n := 31) ha hc.2, nx_xor a c⟩
  refine G_eqi ex ?_
  refine G_if_geN (a := x) 18 dJ9_floorMod_7cf53_7 (by decide) (by omega) ?_
  refine G_iload_n dJ9_floorMod_7cf53_18 rfl ?_
  exact G_iret dJ9_floorMod_7cf53_19 ⟨Nat.zero_le _, Nat.zero_le _⟩ (rfl)
theorem c_at (hΩ : LV lp ap Ω) {r : mj_S} {j : Nat} (hj : j < 161) : MC l yX0_at wsX0_at rmX0_at false [.ref lp, .int (nI (j))] (Ω r) (some (.int (r j))) (Ω r) := by
  refine mj_MC (cc := cX0_at) (nl := 2) (ret := (some .int)) (plainFor_of_name (by decide)) rfl (⟨_, rfl, rfl⟩) (Nat.le_of_ble_eq_true rfl) ?_
  show GG l cX0_at MX0_at false (.inl ((some (.int (r j))), Ω r)) 0 [some (.ref lp), some (.int (nI (j)))] [] (Ω r) 0 0
  refine G_iload_n dX0_at_0 rfl ?_
  refine G_if_ltN (a := j) 22 dX0_at_1 (by decide) (by omega) ?_
  refine G_iload_n dX0_at_4 rfl ?_
  refine G_aload_n dX0_at_5 rfl ?_
  refine G_getf dX0_at_6 fX0_at_11 ((hΩ _).1) rfl ?_
  refine G_alen (v := 161) dX0_at_9 ((hΩ _).2.1) rfl ?_
  refine G_icmp_geN (a := j) (c := 161) 22 dX0_at_10 (by decide) (by omega) (fun c10 => ?_) (fun c10 => ?_)
  · exact (show False by omega).elim
  · refine G_aload_n dX0_at_13 rfl ?_
    refine G_getf dX0_at_14 fX0_at_11 ((hΩ _).1) rfl ?_
    refine G_iload_n dX0_at_17 rfl ?_
    refine G_ialdN (j := j) dX0_at_18 ((hΩ _).2.1) (by omega) ?_
    refine G_goto 23 dX0_at_19 (by decide) ?_
    exact G_iret dX0_at_23 ⟨Nat.zero_le _, Nat.zero_le _⟩ (rfl)
theorem c_put (hΩ : LV lp ap Ω) {r : mj_S} {j : Nat} {v : Int32} (hj : j < 161) : MC l yX0_put wsX0_put rmX0_put false [.ref lp, .int (nI (j)), .int v] (Ω r) none (Ω (upd r j v)) := by
  refine mj_MC (cc := cX0_put) (nl := 3) (ret := none) (plainFor_of_name (by decide)) rfl (rfl) (Nat.le_of_ble_eq_true rfl) ?_
  show GG l cX0_put MX0_put false (.inl (none, Ω (upd r j v))) 0 [some (.ref lp), some (.int (nI (j))), some (.int v)] [] (Ω r) 0 0
  refine G_iload_n dX0_put_0 rfl ?_
  refine G_if_ltN (a := j) 20 dX0_put_1 (by decide) (by omega) ?_
  refine G_iload_n dX0_put_4 rfl ?_
  refine G_aload_n dX0_put_5 rfl ?_
  refine G_getf dX0_put_6 fX0_put_11 ((hΩ _).1) rfl ?_
  refine G_alen (v := 161) dX0_put_9 ((hΩ _).2.1) rfl ?_
  refine G_icmp_geN (a := j) (c := 161) 20 dX0_put_10 (by decide) (by omega) (fun c10 => ?_) (fun c10 => ?_)
  · exact (show False by omega).elim
  · refine G_aload_n dX0_put_13 rfl ?_
    refine G_getf dX0_put_14 fX0_put_11 ((hΩ _).1) rfl ?_
    refine G_iload_n dX0_put_17 rfl ?_
    refine G_iload_n dX0_put_18 rfl ?_
    refine G_iastN (j := j) dX0_put_19 ((hΩ _).2.1) (by omega) ((hΩ _).2.2 _) ?_
    exact G_vret dX0_put_20 ⟨Nat.zero_le _, Nat.zero_le _⟩ (rfl)
theorem c_add (hΩ : LV lp ap Ω) {r : mj_S} {j : Nat} {v : Int32} (hj : j < 161) : MC l yX0_add wsX0_add rmX0_add false [.ref lp, .int (nI (j)), .int v] (Ω r) none (Ω (upd r j (r j + v))) := by
  refine mj_MC (cc := cX0_add) (nl := 3) (ret := none) (plainFor_of_name (by decide)) rfl (rfl) (Nat.le_of_ble_eq_true rfl) ?_
  show GG l cX0_add MX0_add false (.inl (none, Ω (upd r j (r j + v)))) 0 [some (.ref lp), some (.int (nI (j))), some (.int v)] [] (Ω r) 0 0
  refine G_aload_n dX0_add_0 rfl ?_
  refine G_iload_n dX0_add_1 rfl ?_
  refine G_aload_n dX0_add_2 rfl ?_
  refine G_iload_n dX0_add_3 rfl ?_
  refine G_callVi dX0_add_4 kX0_add_X0_at ⟨rfl, rfl⟩ ⟨Nat.zero_le _, Nat.zero_le _⟩ (c_at hΩ (r := r) (j := j) (by omega)) rfl rfl ((hΩ _).1) rfl rfl ?_
  refine G_iload_n dX0_add_7 rfl ?_
  refine G_iadd dX0_add_8 ?_
  refine G_callVv dX0_add_9 kX0_add_X0_put ⟨rfl, rfl⟩ ⟨Nat.zero_le _, Nat.zero_le _⟩ (c_put hΩ (r := r) (j := j) (v := ((r (j)) + v)) (by omega)) rfl rfl ((hΩ _).1) rfl rfl ?_
  exact G_vret dX0_add_12 ⟨Nat.zero_le _, Nat.zero_le _⟩ (rfl)
theorem c_swap (hΩ : LV lp ap Ω) {r : mj_S} {j : Nat} {v : Int32} (hj : j < 161) : MC l yX0_swap wsX0_swap rmX0_swap false [.ref lp, .int (nI (j)), .int v] (Ω r) (some (.int (r j))) (Ω (upd r j v)) := by
  refine mj_MC (cc := cX0_swap) (nl := 4) (ret := (some .int)) (plainFor_of_name (by decide)) rfl (⟨_, rfl, rfl⟩) (Nat.le_of_ble_eq_true rfl) ?_
  show GG l cX0_swap MX0_swap false (.inl ((some (.int (r j))), Ω (upd r j v))) 0 [some (.ref lp), some (.int (nI (j))), some (.int v), none] [] (Ω r) 0 0
  refine G_aload_n dX0_swap_0 rfl ?_
  refine G_iload_n dX0_swap_1 rfl ?_
  refine G_callVi dX0_swap_2 kX0_swap_X0_at ⟨rfl, rfl⟩ ⟨Nat.zero_le _, Nat.zero_le _⟩ (c_at hΩ (r := r) (j := j) (by omega)) rfl rfl ((hΩ _).1) rfl rfl ?_
  refine G_istore_n dX0_swap_5 rfl (L' := [some (.ref lp), some (.int (nI (j))), some (.int v), some (.int (r (j)))]) rfl ?_
  refine G_aload_n dX0_swap_6 rfl ?_
  refine G_iload_n dX0_swap_7 rfl ?_
  refine G_iload_n dX0_swap_8 rfl ?_
  refine G_callVv dX0_swap_9 kX0_swap_X0_put ⟨rfl, rfl⟩ ⟨Nat.zero_le _, Nat.zero_le _⟩ (c_put hΩ (r := r) (j := j) (v := v) (by omega)) rfl rfl ((hΩ _).1) rfl rfl ?_
  refine G_iload_n dX0_swap_12 rfl ?_
  exact G_iret dX0_swap_13 ⟨Nat.zero_le _, Nat.zero_le _⟩ (rfl)
theorem c_plotOf {w : mj_W} {h b : Nat} : MC l yX0_plotOf wsX0_plotOf rmX0_plotOf false [.int (nI (h)), .int (nI (b))] (w) (some (.int (nI (b + 4 * h)))) (w) := by
  refine mj_MC (cc := cX0_plotOf) (nl := 2) (ret := (some .int)) (plainFor_of_name (by decide)) rfl (⟨_, rfl, rfl⟩) (Nat.le_of_ble_eq_true rfl) ?_
  show GG l cX0_plotOf MX0_plotOf false (.inl ((some (.int (nI (b + 4 * h)))), w)) 0 [some (.int (nI (h))), some (.int (nI (b)))] [] (w) 0 0
  refine G_iload_n dX0_plotOf_0 rfl ?_
  refine G_iconst (v := 4) dX0_plotOf_1 (by decide) ?_
  refine G_imulN (a := h) (c := 4) (s := 4 * h) dX0_plotOf_2 (by omega) ?_
  refine G_iload_n dX0_plotOf_3 rfl ?_
  refine G_iaddN (a := 4 * h) (c := b) (s := b + 4 * h) dX0_plotOf_4 (by omega) ?_
  exact G_iret dX0_plotOf_5 ⟨Nat.zero_le _, Nat.zero_le _⟩ (rfl)
theorem c_plotOfN {w : mj_W} {h b s : Nat} (hs : b + 4 * h = s) : MC l yX0_plotOf wsX0_plotOf rmX0_plotOf false [.int (nI h), .int (nI b)] w (some (.int (nI s))) w := by subst hs; exact c_plotOf
theorem c_half {w : mj_W} {x : Int32} : MC l yX0_halfRoundedUp wsX0_halfRoundedUp rmX0_halfRoundedUp false [.int x] (w) (some (.int ((x + 1) / 2))) (w) := by
  refine mj_MC (cc := cX0_halfRoundedUp) (nl := 1) (ret := (some .int)) (plainFor_of_name (by decide)) rfl (⟨_, rfl, rfl⟩) (Nat.le_of_ble_eq_true rfl) ?_
  show GG l cX0_halfRoundedUp MX0_halfRoundedUp false (.inl ((some (.int ((x + 1) / 2))), w)) 0 [some (.int x)] [] (w) 0 0
  refine G_iload_n dX0_halfRoundedUp_0 rfl ?_
  refine G_iconst (v := 1) dX0_halfRoundedUp_1 (by decide) ?_
  refine G_iadd dX0_halfRoundedUp_2 ?_
  refine G_iconst (v := 2) dX0_halfRoundedUp_3 (by decide) ?_
  refine G_idiv dX0_halfRoundedUp_4 (by decide) ?_
  exact G_iret dX0_halfRoundedUp_5 ⟨Nat.zero_le _, Nat.zero_le _⟩ (rfl)
theorem c_atL (hΩ : LV lp ap Ω) {q f : mj_S} {j : Nat} (h : j < 53) : MC l yX0_at wsX0_at rmX0_at false [.ref lp, .int (nI j)] (Ω (row q f)) (some (.int (f j))) (Ω (row q f)) := by
  have e := c_at hΩ (l := l) (r := row q f) (j := j) (by omega)
  rwa [row_lo h] at e
theorem c_atH (hΩ : LV lp ap Ω) {q f : mj_S} {j j' : Nat} (h : j = j' + 4) (h' : 53 ≤ j' ∧ j' < 157) : MC l yX0_at wsX0_at rmX0_at false [.ref lp, .int (nI j)] (Ω (row q f)) (some (.int (f j'))) (Ω (row q f)) := by
  have e := c_at hΩ (l := l) (r := row q f) (j := j) (by omega)
  rwa [row_hi h h'.1] at e
theorem c_atQ (hΩ : LV lp ap Ω) {q f : mj_S} {j i : Nat} (h : j = 53 + i) (h' : i < 4) : MC l yX0_at wsX0_at rmX0_at false [.ref lp, .int (nI j)] (Ω (row q f)) (some (.int (q i))) (Ω (row q f)) := by
  have e := c_at hΩ (l := l) (r := row q f) (j := j) (by omega)
  rwa [row_q h h'] at e
theorem c_putL (hΩ : LV lp ap Ω) {q f f1 : mj_S} {j : Nat} {v : Int32} (h : j < 53) (e1 : f1 = upd f j v) : MC l yX0_put wsX0_put rmX0_put false [.ref lp, .int (nI j), .int v] (Ω (row q f)) none (Ω (row q f1)) := by
  have e := c_put hΩ (l := l) (r := row q f) (j := j) (v := v) (by omega)
  rwa [row_put_lo h, ← e1] at e
theorem c_putH (hΩ : LV lp ap Ω) {q f f1 : mj_S} {j j' : Nat} {v : Int32} (h : j = j' + 4) (h' : 53 ≤ j' ∧ j' < 157) (e1 : f1 = upd f j' v) : MC l yX0_put wsX0_put rmX0_put false [.ref lp, .int (nI j), .int v] (Ω (row q f)) none (Ω (row q f1)) := by
  have e := c_put hΩ (l := l) (r := row q f) (j := j) (v := v) (by omega)
  rwa [row_put_hi h h'.1, ← e1] at e
theorem c_addL (hΩ : LV lp ap Ω) {q f f1 : mj_S} {j : Nat} {v : Int32} (h : j < 53) (e1 : f1 = upd f j (f j + v)) : MC l yX0_add wsX0_add rmX0_add false [.ref lp, .int (nI j), .int v] (Ω (row q f)) none (Ω (row q f1)) := by
  have e := c_add hΩ (l := l) (r := row q f) (j := j) (v := v) (by omega)
  rwa [row_put_lo h, row_lo h, ← e1] at e
theorem c_addH (hΩ : LV lp ap Ω) {q f f1 : mj_S} {j j' : Nat} {v : Int32} (h : j = j' + 4) (h' : 53 ≤ j' ∧ j' < 157) (e1 : f1 = upd f j' (f j' + v)) : MC l yX0_add wsX0_add rmX0_add false [.ref lp, .int (nI j), .int v] (Ω (row q f)) none (Ω (row q f1)) := by
  have e := c_add hΩ (l := l) (r := row q f) (j := j) (v := v) (by omega)
  rwa [row_put_hi h h'.1, row_hi h h'.1, ← e1] at e
theorem c_addQ (hΩ : LV lp ap Ω) {q f q1 : mj_S} {j i : Nat} {v : Int32} (h : j = 53 + i) (h' : i < 4) (e1 : q1 = upd q i (q i + v)) : MC l yX0_add wsX0_add rmX0_add false [.ref lp, .int (nI j), .int v] (Ω (row q f)) none (Ω (row q1 f)) := by
  have e := c_add hΩ (l := l) (r := row q f) (j := j) (v := v) (by omega)
  rwa [row_put_q h h', row_q h h', ← e1] at e
theorem c_swapL (hΩ : LV lp ap Ω) {q f f1 : mj_S} {j : Nat} {v : Int32} (h : j < 53) (e1 : f1 = upd f j v) : MC l yX0_swap wsX0_swap rmX0_swap false [.ref lp, .int (nI j), .int v] (Ω (row q f)) (some (.int (f j))) (Ω (row q f1)) := by
  have e := c_swap hΩ (l := l) (r := row q f) (j := j) (v := v) (by omega)
  rwa [row_put_lo h, row_lo h, ← e1] at e
theorem c_swapH (hΩ : LV lp ap Ω) {q f f1 : mj_S} {j j' : Nat} {v : Int32} (h : j = j' + 4) (h' : 53 ≤ j' ∧ j' < 157) (e1 : f1 = upd f j' v) : MC l yX0_swap wsX0_swap rmX0_swap false [.ref lp, .int (nI j), .int v] (Ω (row q f)) (some (.int (f j'))) (Ω (row q f1)) := by
  have e := c_swap hΩ (l := l) (r := row q f) (j := j) (v := v) (by omega)
  rwa [row_put_hi h h'.1, row_hi h h'.1, ← e1] at e
theorem lp_sum (hΩ : LV lp ap Ω) {r : mj_S} {a m : Nat} (ha : a + m ≤ 161) {res : Int32} : ∀ (d c : Nat) (x : Int32), c + d = m → res = itr (fun i x => x + r (a + i)) d c x → GG l cX0_sum MX0_sum false (.inl (some (.int res), Ω r)) 5 [some (.ref lp), some (.int (nI a)), some (.int (nI m)), some (.int x), some (.int (nI c))] [] (Ω r) 0 0
  | 0, c, x, hc, hr => by
    refine G_iload dX0_sum_5 rfl ?_
    refine G_iload_n dX0_sum_7 rfl ?_
    refine G_icmp_geN (a := c) (c := m) 28 dX0_sum_8 (by decide) (by omega) (fun c8 => ?_) (fun c8 => ?_)
    · refine G_iload_n dX0_sum_28 rfl ?_
      exact G_iret dX0_sum_29 ⟨Nat.zero_le _, Nat.zero_le _⟩ (by rw [hr, itr_0])
    · exact (show False by omega).elim
  | d + 1, c, x, hc, hr => by
    refine G_iload dX0_sum_5 rfl ?_
    refine G_iload_n dX0_sum_7 rfl ?_
    refine G_icmp_geN (a := c) (c := m) 28 dX0_sum_8 (by decide) (by omega) (fun c8 => ?_) (fun c8 => ?_)
    · exact (show False by omega).elim
    · refine G_iload_n dX0_sum_11 rfl ?_
      refine G_aload_n dX0_sum_12 rfl ?_
      refine G_iload_n dX0_sum_13 rfl ?_
      refine G_iload dX0_sum_14 rfl ?_
      refine G_iaddN (a := a) (c := c) (s := a + c) dX0_sum_16 (by omega) ?_
      refine G_callVi dX0_sum_17 kX0_sum_X0_at ⟨rfl, rfl⟩ ⟨Nat.zero_le _, Nat.zero_le _⟩ (c_at hΩ (r := r) (j := a + c) (by omega)) rfl rfl ((hΩ _).1) rfl rfl ?_
      refine G_iadd dX0_sum_20 ?_
      refine G_istore_n dX0_sum_21 rfl (L' := [some (.ref lp), some (.int (nI (a))), some (.int (nI (m))), some (.int (x + (r (a + c)))), some (.int (nI (c)))]) rfl ?_
      refine G_iincN (a := c) (s := c + 1) dX0_sum_22 rfl (by omega) (L' := [some (.ref lp), some (.int (nI (a))), some (.int (nI (m))), some (.int (x + (r (a + c)))), some (.int (nI (c + 1)))]) rfl ?_
      refine G_goto 5 dX0_sum_25 (by decide) ?_
      exact lp_sum hΩ ha d (c + 1) (x + (r (a + c))) (by omega) hr
theorem c_sum (hΩ : LV lp ap Ω) {r : mj_S} {a m : Nat} (ha : a + m ≤ 161) : MC l yX0_sum wsX0_sum rmX0_sum false [.ref lp, .int (nI (a)), .int (nI (m))] (Ω r) (some (.int (s_sum r a m))) (Ω r) := by
  refine mj_MC (cc := cX0_sum) (nl := 5) (ret := (some .int)) (plainFor_of_name (by decide)) rfl (⟨_, rfl, rfl⟩) (Nat.le_of_ble_eq_true rfl) ?_
  show GG l cX0_sum MX0_sum false (.inl ((some (.int (s_sum r a m))), Ω r)) 0 [some (.ref lp), some (.int (nI (a))), some (.int (nI (m))), none, none] [] (Ω r) 0 0
  refine G_iconst (v := 0) dX0_sum_0 (by decide) ?_
  refine G_istore_n dX0_sum_1 rfl (L' := [some (.ref lp), some (.int (nI (a))), some (.int (nI (m))), some (.int 0), none]) rfl ?_
  refine G_iconst (v := 0) dX0_sum_2 (by decide) ?_
  refine G_istore dX0_sum_3 rfl (L' := [some (.ref lp), some (.int (nI (a))), some (.int (nI (m))), some (.int 0), some (.int 0)]) rfl ?_
  exact lp_sum hΩ ha m 0 _ (by omega) rfl
theorem c_sumL (hΩ : LV lp ap Ω) {q f : mj_S} {a m : Nat} (h : a + m ≤ 53) : MC l yX0_sum wsX0_sum rmX0_sum false [.ref lp, .int (nI a), .int (nI m)] (Ω (row q f)) (some (.int (s_sum f a m))) (Ω (row q f)) := by
  have e := c_sum hΩ (l := l) (r := row q f) (a := a) (m := m) (by omega)
  have e2 : s_sum (row q f) a m = s_sum f a m := itr_congr _ _ _ (fun k _ h2 x => by rw [row_lo (by omega)])
  rwa [e2] at e
theorem c_sumH (hΩ : LV lp ap Ω) {q f : mj_S} {a a' m : Nat} (h : a = a' + 4) (h' : 53 ≤ a' ∧ a' + m ≤ 157) : MC l yX0_sum wsX0_sum rmX0_sum false [.ref lp, .int (nI a), .int (nI m)] (Ω (row q f)) (some (.int (s_sum f a' m))) (Ω (row q f)) := by
  have e := c_sum hΩ (l := l) (r := row q f) (a := a) (m := m) (by omega)
  have e2 : s_sum (row q f) a m = s_sum f a' m := itr_congr _ _ _ (fun k _ h2 x => by rw [row_hi (j' := a' + k) (by omega) (by omega)])
  rwa [e2] at e
end LA
end
section
/-! LAND: looks and small changes -/
theorem X_i {x y : Int32} {w : mj_W} (h : x = y) : (Sum.inl (some (Value.int x), w) : mj_R) = .inl (some (.int y), w) := by rw [h]
theorem X_iw {x y : Int32} {w w' : mj_W} (h : x = y) (hw : w = w') : (Sum.inl (some (Value.int x), w) : mj_R) = .inl (some (.int y), w') := by rw [h, hw]
theorem X_w {w w' : mj_W} (hw : w = w') : (Sum.inl (none, w) : mj_R) = .inl (none, w') := by rw [hw]
theorem mx0_max (v : Int32) : (if 0 < v then v else 0) = mx0 v := by
  unfold mx0
  by_cases h1 : 0 < v <;> by_cases h2 : v < 0 <;> simp only [h1, h2, if_true, if_false]
  · exact absurd (Int32.lt_trans h1 h2) Int32.lt_irrefl
  · exact Int32.le_antisymm (Int32.not_lt.mp h2) (Int32.not_lt.mp h1)
theorem nI_m1 {a : Nat} (h : a < 2147483648) : ¬ nI a = -1 := by
  intro e
  have h1 := nI_pos' h
  rw [e] at h1
  exact absurd h1 (by decide)
section LB
variable {l : Launch} {lp ap : Nat} {Ω : mj_S → mj_W}
theorem lp_cuttersAt (hΩ : LV lp ap Ω) {q f : mj_S} {h b res : Int32} : ∀ (d c : Nat) (x : Int32), c + d = 6 → res = itr (fun c a => if f (139 + c) = h ∧ f (145 + c) = b then a + 1 else a) d c x → GG l cX0_cuttersAt MX0_cuttersAt false (.inl (some (.int res), Ω (row q f))) 5 [some (.ref lp), some (.int h), some (.int b), some (.int x), some (.int (nI (c)))] [] (Ω (row q f)) 0 0
  | 0, c, x, hc, hr => by
    refine G_iload dX0_cuttersAt_5 rfl ?_
    refine G_bipush (v := 6) dX0_cuttersAt_7 (by decide) ?_
    refine G_icmp_geN (a := c) (c := 6) 49 dX0_cuttersAt_9 (by decide) (by omega) (fun c9 => ?_) (fun c9 => ?_)
    · refine G_iload_n dX0_cuttersAt_49 rfl ?_
      exact G_iret dX0_cuttersAt_50 ⟨Nat.zero_le _, Nat.zero_le _⟩ (by rw [hr, itr_0])
    · exact (show False by omega).elim
  | d + 1, c, x, hc, hr => by
    refine G_iload dX0_cuttersAt_5 rfl ?_
    refine G_bipush (v := 6) dX0_cuttersAt_7 (by decide) ?_
    refine G_icmp_geN (a := c) (c := 6) 49 dX0_cuttersAt_9 (by decide) (by omega) (fun c9 => ?_) (fun c9 => ?_)
    · exact (show False by omega).elim
    · refine G_aload_n dX0_cuttersAt_12 rfl ?_
      refine G_sipush (v := 143) dX0_cuttersAt_13 (by decide) ?_
      refine G_iload dX0_cuttersAt_16 rfl ?_
      refine G_iaddN (a := 143) (c := c) (s := 143 + c) dX0_cuttersAt_18 (by omega) ?_
      refine G_callVi dX0_cuttersAt_19 kX0_cuttersAt_X0_at ⟨rfl, rfl⟩ ⟨Nat.zero_le _, Nat.zero_le _⟩ (c_atH hΩ (j := 143 + c) (j' := 139 + c) (by omega) (by omega)) rfl rfl ((hΩ _).1) rfl rfl ?_
      refine G_iload_n dX0_cuttersAt_22 rfl ?_
      refine G_icmp_ne 43 dX0_cuttersAt_23 (by decide) (fun c23 => ?_) (fun c23 => ?_)
      · refine G_iincN (a := c) (s := c + 1) dX0_cuttersAt_43 rfl (by omega) (L' := [some (.ref lp), some (.int h), some (.int b), some (.int x), some (.int (nI (c + 1)))]) rfl ?_
        refine G_goto 5 dX0_cuttersAt_46 (by decide) ?_
        exact lp_cuttersAt hΩ d (c + 1) x (by omega) (by rw [hr, itr_s]; congr 1; simp [c23])
      · refine G_aload_n dX0_cuttersAt_26 rfl ?_
        refine G_sipush (v := 149) dX0_cuttersAt_27 (by decide) ?_
        refine G_iload dX0_cuttersAt_30 rfl ?_
        refine G_iaddN (a := 149) (c := c) (s := 149 + c) dX0_cuttersAt_32 (by omega) ?_
        refine G_callVi dX0_cuttersAt_33 kX0_cuttersAt_X0_at ⟨rfl, rfl⟩ ⟨Nat.zero_le _, Nat.zero_le _⟩ (c_atH hΩ (j := 149 + c) (j' := 145 + c) (by omega) (by omega)) rfl rfl ((hΩ _).1) rfl rfl ?_
        refine G_iload_n dX0_cuttersAt_36 rfl ?_
        refine G_icmp_ne 43 dX0_cuttersAt_37 (by decide) (fun c37 => ?_) (fun c37 => ?_)
        · refine G_iincN (a := c) (s := c + 1) dX0_cuttersAt_43 rfl (by omega) (L' := [some (.ref lp), some (.int h), some (.int b), some (.int x), some (.int (nI (c + 1)))]) rfl ?_
          refine G_goto 5 dX0_cuttersAt_46 (by decide) ?_
          exact lp_cuttersAt hΩ d (c + 1) x (by omega) (by rw [hr, itr_s]; congr 1; simp [c23, c37])
        · refine G_iinc (v := (x + 1)) dX0_cuttersAt_40 rfl rfl (L' := [some (.ref lp), some (.int h), some (.int b), some (.int (x + 1)), some (.int (nI (c)))]) rfl ?_
          refine G_iincN (a := c) (s := c + 1) dX0_cuttersAt_43 rfl (by omega) (L' := [some (.ref lp), some (.int h), some (.int b), some (.int (x + 1)), some (.int (nI (c + 1)))]) rfl ?_
          refine G_goto 5 dX0_cuttersAt_46 (by decide) ?_
          exact lp_cuttersAt hΩ d (c + 1) (x + 1) (by omega) (by rw [hr, itr_s]; congr 1; simp [c23, c37])
theorem c_cuttersAt (hΩ : LV lp ap Ω) {q f : mj_S} {h b : Int32} : MC l yX0_cuttersAt wsX0_cuttersAt rmX0_cuttersAt false [.ref lp, .int h, .int b] (Ω (row q f)) (some (.int (s_cnt f h b))) (Ω (row q f)) := by
  refine mj_MC (cc := cX0_cuttersAt) (nl := 5) (ret := (some .int)) (plainFor_of_name (by decide)) rfl (⟨_, rfl, rfl⟩) (Nat.le_of_ble_eq_true rfl) ?_
  show GG l cX0_cuttersAt MX0_cuttersAt false (.inl ((some (.int (s_cnt f h b))), Ω (row q f))) 0 [some (.ref lp), some (.int h), some (.int b), none, none] [] (Ω (row q f)) 0 0
  refine G_iconst (v := 0) dX0_cuttersAt_0 (by decide) ?_
  refine G_istore_n dX0_cuttersAt_1 rfl (L' := [some (.ref lp), some (.int h), some (.int b), some (.int 0), none]) rfl ?_
  refine G_iconst (v := 0) dX0_cuttersAt_2 (by decide) ?_
  refine G_istore dX0_cuttersAt_3 rfl (L' := [some (.ref lp), some (.int h), some (.int b), some (.int 0), some (.int 0)]) rfl ?_
  exact lp_cuttersAt hΩ 6 0 0 rfl rfl
theorem lp_cuttersOnBank (hΩ : LV lp ap Ω) {q f : mj_S} {b res : Int32} : ∀ (d c : Nat) (x : Int32), c + d = 5 → res = itr (fun h a => a + s_cnt f (nI h) b) d c x → GG l cX0_cuttersOnBank MX0_cuttersOnBank false (.inl (some (.int res), Ω (row q f))) 4 [some (.ref lp), some (.int b), some (.int x), some (.int (nI (c)))] [] (Ω (row q f)) 0 0
  | 0, c, x, hc, hr => by
    refine G_iload_n dX0_cuttersOnBank_4 rfl ?_
    refine G_iconst (v := 5) dX0_cuttersOnBank_5 (by decide) ?_
    refine G_icmp_geN (a := c) (c := 5) 24 dX0_cuttersOnBank_6 (by decide) (by omega) (fun c6 => ?_) (fun c6 => ?_)
    · refine G_iload_n dX0_cuttersOnBank_24 rfl ?_
      exact G_iret dX0_cuttersOnBank_25 ⟨Nat.zero_le _, Nat.zero_le _⟩ (by rw [hr, itr_0])
    · exact (show False by omega).elim
  | d + 1, c, x, hc, hr => by
    refine G_iload_n dX0_cuttersOnBank_4 rfl ?_
    refine G_iconst (v := 5) dX0_cuttersOnBank_5 (by decide) ?_
    refine G_icmp_geN (a := c) (c := 5) 24 dX0_cuttersOnBank_6 (by decide) (by omega) (fun c6 => ?_) (fun c6 => ?_)
    · exact (show False by omega).elim
    · refine G_iload_n dX0_cuttersOnBank_9 rfl ?_
      refine G_aload_n dX0_cuttersOnBank_10 rfl ?_
      refine G_iload_n dX0_cuttersOnBank_11 rfl ?_
      refine G_iload_n dX0_cuttersOnBank_12 rfl ?_
      refine G_callVi dX0_cuttersOnBank_13 kX0_cuttersOnBank_X0_cuttersAt ⟨rfl, rfl⟩ ⟨Nat.zero_le _, Nat.zero_le _⟩ (c_cuttersAt hΩ) rfl rfl ((hΩ _).1) rfl rfl ?_
      refine G_iadd dX0_cuttersOnBank_16 ?_
      refine G_istore_n dX0_cuttersOnBank_17 rfl (L' := [some (.ref lp), some (.int b), some (.int (x + (s_cnt f (nI (c)) b))), some (.int (nI (c)))]) rfl ?_
      refine G_iincN (a := c) (s := c + 1) dX0_cuttersOnBank_18 rfl (by omega) (L' := [some (.ref lp), some (.int b), some (.int (x + (s_cnt f (nI (c)) b))), some (.int (nI (c + 1)))]) rfl ?_
      refine G_goto 4 dX0_cuttersOnBank_21 (by decide) ?_
      exact lp_cuttersOnBank hΩ d (c + 1) (x + (s_cnt f (nI (c)) b)) (by omega) hr
theorem c_cuttersOnBank (hΩ : LV lp ap Ω) {q f : mj_S} {b : Int32} : MC l yX0_cuttersOnBank wsX0_cuttersOnBank rmX0_cuttersOnBank false [.ref lp, .int b] (Ω (row q f)) (some (.int (s_cntB f b))) (Ω (row q f)) := by
  refine mj_MC (cc := cX0_cuttersOnBank) (nl := 4) (ret := (some .int)) (plainFor_of_name (by decide)) rfl (⟨_, rfl, rfl⟩) (Nat.le_of_ble_eq_true rfl) ?_
  show GG l cX0_cuttersOnBank MX0_cuttersOnBank false (.inl ((some (.int (s_cntB f b))), Ω (row q f))) 0 [some (.ref lp), some (.int b), none, none] [] (Ω (row q f)) 0 0
  refine G_iconst (v := 0) dX0_cuttersOnBank_0 (by decide) ?_
  refine G_istore_n dX0_cuttersOnBank_1 rfl (L' := [some (.ref lp), some (.int b), some (.int 0), none]) rfl ?_
  refine G_iconst (v := 0) dX0_cuttersOnBank_2 (by decide) ?_
  refine G_istore_n dX0_cuttersOnBank_3 rfl (L' := [some (.ref lp), some (.int b), some (.int 0), some (.int 0)]) rfl ?_
  exact lp_cuttersOnBank hΩ 5 0 0 rfl rfl
theorem lp_cuttersAtWork (hΩ : LV lp ap Ω) {q f : mj_S} {res : Int32} : ∀ (d c : Nat) (x : Int32), c + d = 4 → res = itr (fun b a => a + s_cntB f (nI b)) d c x → GG l cX0_cuttersAtWork MX0_cuttersAtWork false (.inl (some (.int res), Ω (row q f))) 4 [some (.ref lp), some (.int x), some (.int (nI (c)))] [] (Ω (row q f)) 0 0
  | 0, c, x, hc, hr => by
    refine G_iload_n dX0_cuttersAtWork_4 rfl ?_
    refine G_iconst (v := 4) dX0_cuttersAtWork_5 (by decide) ?_
    refine G_icmp_geN (a := c) (c := 4) 23 dX0_cuttersAtWork_6 (by decide) (by omega) (fun c6 => ?_) (fun c6 => ?_)
    · refine G_iload_n dX0_cuttersAtWork_23 rfl ?_
      exact G_iret dX0_cuttersAtWork_24 ⟨Nat.zero_le _, Nat.zero_le _⟩ (by rw [hr, itr_0])
    · exact (show False by omega).elim
  | d + 1, c, x, hc, hr => by
    refine G_iload_n dX0_cuttersAtWork_4 rfl ?_
    refine G_iconst (v := 4) dX0_cuttersAtWork_5 (by decide) ?_
    refine G_icmp_geN (a := c) (c := 4) 23 dX0_cuttersAtWork_6 (by decide) (by omega) (fun c6 => ?_) (fun c6 => ?_)
    · exact (show False by omega).elim
    · refine G_iload_n dX0_cuttersAtWork_9 rfl ?_
      refine G_aload_n dX0_cuttersAtWork_10 rfl ?_
      refine G_iload_n dX0_cuttersAtWork_11 rfl ?_
      refine G_callVi dX0_cuttersAtWork_12 kX0_cuttersAtWork_X0_cuttersOnBank ⟨rfl, rfl⟩ ⟨Nat.zero_le _, Nat.zero_le _⟩ (c_cuttersOnBank hΩ) rfl rfl ((hΩ _).1) rfl rfl ?_
      refine G_iadd dX0_cuttersAtWork_15 ?_
      refine G_istore_n dX0_cuttersAtWork_16 rfl (L' := [some (.ref lp), some (.int (x + (s_cntB f (nI (c))))), some (.int (nI (c)))]) rfl ?_
      refine G_iincN (a := c) (s := c + 1) dX0_cuttersAtWork_17 rfl (by omega) (L' := [some (.ref lp), some (.int (x + (s_cntB f (nI (c))))), some (.int (nI (c + 1)))]) rfl ?_
      refine G_goto 4 dX0_cuttersAtWork_20 (by decide) ?_
      exact lp_cuttersAtWork hΩ d (c + 1) (x + (s_cntB f (nI (c)))) (by omega) hr
theorem c_cuttersAtWork (hΩ : LV lp ap Ω) {q f : mj_S} : MC l yX0_cuttersAtWork wsX0_cuttersAtWork rmX0_cuttersAtWork false [.ref lp] (Ω (row q f)) (some (.int (s_cntA f))) (Ω (row q f)) := by
  refine mj_MC (cc := cX0_cuttersAtWork) (nl := 3) (ret := (some .int)) (plainFor_of_name (by decide)) rfl (⟨_, rfl, rfl⟩) (Nat.le_of_ble_eq_true rfl) ?_
  show GG l cX0_cuttersAtWork MX0_cuttersAtWork false (.inl ((some (.int (s_cntA f))), Ω (row q f))) 0 [some (.ref lp), none, none] [] (Ω (row q f)) 0 0
  refine G_iconst (v := 0) dX0_cuttersAtWork_0 (by decide) ?_
  refine G_istore_n dX0_cuttersAtWork_1 rfl (L' := [some (.ref lp), some (.int 0), none]) rfl ?_
  refine G_iconst (v := 0) dX0_cuttersAtWork_2 (by decide) ?_
  refine G_istore_n dX0_cuttersAtWork_3 rfl (L' := [some (.ref lp), some (.int 0), some (.int 0)]) rfl ?_
  exact lp_cuttersAtWork hΩ 4 0 0 rfl rfl
theorem c_reasonAgainst (hΩ : LV lp ap Ω) {q f : mj_S} {h b : Nat} (hh : h < 5) (hb : b < 4) : MC l yX0_reasonAgainst wsX0_reasonAgainst rmX0_reasonAgainst false [.ref lp, .int (nI (h)), .int (nI (b))] (Ω (row q f)) (some (.int (s_why f h b))) (Ω (row q f)) := by
  refine mj_MC (cc := cX0_reasonAgainst) (nl := 4) (ret := (some .int)) (plainFor_of_name (by decide)) rfl (⟨_, rfl, rfl⟩) (Nat.le_of_ble_eq_true rfl) ?_
  show GG l cX0_reasonAgainst MX0_reasonAgainst false (.inl ((some (.int (s_why f h b))), Ω (row q f))) 0 [some (.ref lp), some (.int (nI (h))), some (.int (nI (b))), none] [] (Ω (row q f)) 0 0
  refine G_aload_n dX0_reasonAgainst_0 rfl ?_
  refine G_bipush (v := 57) dX0_reasonAgainst_1 (by decide) ?_
  refine G_iload_n dX0_reasonAgainst_3 rfl ?_
  refine G_iload_n dX0_reasonAgainst_4 rfl ?_
  refine G_callSi dX0_reasonAgainst_5 kX0_reasonAgainst_X0_plotOf ⟨rfl, rfl⟩ ⟨Nat.zero_le _, Nat.zero_le _⟩ (c_plotOfN (h := h) (b := b) (s := b + 4 * h) (by omega)) rfl rfl rfl ?_
  refine G_iaddN (a := 57) (c := b + 4 * h) (s := 57 + b + 4 * h) dX0_reasonAgainst_8 (by omega) ?_
  refine G_callVi dX0_reasonAgainst_9 kX0_reasonAgainst_X0_at ⟨rfl, rfl⟩ ⟨Nat.zero_le _, Nat.zero_le _⟩ (c_atH hΩ (j := 57 + b + 4 * h) (j' := 53 + b + 4 * h) (by omega) (by omega)) rfl rfl ((hΩ _).1) rfl rfl ?_
  refine G_istore_n dX0_reasonAgainst_12 rfl (L' := [some (.ref lp), some (.int (nI (h))), some (.int (nI (b))), some (.int (f (53 + b + 4 * h)))]) rfl ?_
  refine G_iload_n dX0_reasonAgainst_13 rfl ?_
  refine G_if_ne 19 dX0_reasonAgainst_14 (by decide) (fun c14 => ?_) (fun c14 => ?_)
  · refine G_aload_n dX0_reasonAgainst_19 rfl ?_
    refine G_iload_n dX0_reasonAgainst_20 rfl ?_
    refine G_iload_n dX0_reasonAgainst_21 rfl ?_
    refine G_callVi dX0_reasonAgainst_22 kX0_reasonAgainst_X0_cuttersAt ⟨rfl, rfl⟩ ⟨Nat.zero_le _, Nat.zero_le _⟩ (c_cuttersAt hΩ) rfl rfl ((hΩ _).1) rfl rfl ?_
    refine G_iload_n dX0_reasonAgainst_25 rfl ?_
    refine G_icmp_lt 31 dX0_reasonAgainst_26 (by decide) (fun c26 => ?_) (fun c26 => ?_)
    · refine G_aload_n dX0_reasonAgainst_31 rfl ?_
      refine G_bipush (v := 45) dX0_reasonAgainst_32 (by decide) ?_
      refine G_iload_n dX0_reasonAgainst_34 rfl ?_
      refine G_iaddN (a := 45) (c := b) (s := 45 + b) dX0_reasonAgainst_35 (by omega) ?_
      refine G_callVi dX0_reasonAgainst_36 kX0_reasonAgainst_X0_at ⟨rfl, rfl⟩ ⟨Nat.zero_le _, Nat.zero_le _⟩ (c_atL hΩ (j := 45 + b) (by omega)) rfl rfl ((hΩ _).1) rfl rfl ?_
      refine G_if_ne 44 dX0_reasonAgainst_39 (by decide) (fun c39 => ?_) (fun c39 => ?_)
      · refine G_aload_n dX0_reasonAgainst_44 rfl ?_
        refine G_iconst (v := 1) dX0_reasonAgainst_45 (by decide) ?_
        refine G_callVi dX0_reasonAgainst_46 kX0_reasonAgainst_X0_at ⟨rfl, rfl⟩ ⟨Nat.zero_le _, Nat.zero_le _⟩ (c_atL hΩ (j := 1) (by omega)) rfl rfl ((hΩ _).1) rfl rfl ?_
        refine G_iconst (v := 1) dX0_reasonAgainst_49 (by decide) ?_
        refine G_icmp_ne 57 dX0_reasonAgainst_50 (by decide) (fun c50 => ?_) (fun c50 => ?_)
        · refine G_iconst (v := 0) dX0_reasonAgainst_57 (by decide) ?_
          exact G_iret dX0_reasonAgainst_58 ⟨Nat.zero_le _, Nat.zero_le _⟩ (X_i (by simp [s_why, c14, Int32.not_le.mpr c26, c39, c50]))
        · refine G_iconst (v := 4) dX0_reasonAgainst_53 (by decide) ?_
          refine G_goto 58 dX0_reasonAgainst_54 (by decide) ?_
          exact G_iret dX0_reasonAgainst_58 ⟨Nat.zero_le _, Nat.zero_le _⟩ (X_i (by simp [s_why, c14, Int32.not_le.mpr c26, c39, c50]))
      · refine G_iconst (v := 3) dX0_reasonAgainst_42 (by decide) ?_
        exact G_iret dX0_reasonAgainst_43 ⟨Nat.zero_le _, Nat.zero_le _⟩ (X_i (by simp [s_why, c14, Int32.not_le.mpr c26, c39]))
    · refine G_iconst (v := 2) dX0_reasonAgainst_29 (by decide) ?_
      exact G_iret dX0_reasonAgainst_30 ⟨Nat.zero_le _, Nat.zero_le _⟩ (X_i (by simp [s_why, c14, Int32.not_lt.mp c26]))
  · refine G_iconst (v := 1) dX0_reasonAgainst_17 (by decide) ?_
    exact G_iret dX0_reasonAgainst_18 ⟨Nat.zero_le _, Nat.zero_le _⟩ (X_i (by simp [s_why, c14]))
theorem c_setToWork (hΩ : LV lp ap Ω) {q f : mj_S} {c : Nat} {h b : Int32} (hc : c < 6) : MC l yX0_setToWork wsX0_setToWork rmX0_setToWork false [.ref lp, .int (nI (c)), .int h, .int b] (Ω (row q f)) none (Ω (row q (s_setw f c h b))) := by
  refine mj_MC (cc := cX0_setToWork) (nl := 4) (ret := none) (plainFor_of_name (by decide)) rfl (rfl) (Nat.le_of_ble_eq_true rfl) ?_
  show GG l cX0_setToWork MX0_setToWork false (.inl (none, Ω (row q (s_setw f c h b)))) 0 [some (.ref lp), some (.int (nI (c))), some (.int h), some (.int b)] [] (Ω (row q f)) 0 0
  refine G_aload_n dX0_setToWork_0 rfl ?_
  refine G_sipush (v := 143) dX0_setToWork_1 (by decide) ?_
  refine G_iload_n dX0_setToWork_4 rfl ?_
  refine G_iaddN (a := 143) (c := c) (s := 143 + c) dX0_setToWork_5 (by omega) ?_
  refine G_iload_n dX0_setToWork_6 rfl ?_
  obtain ⟨f1, ef1⟩ : ∃ z : mj_S, z = upd f (139 + c) h := ⟨_, rfl⟩
  refine G_callVv dX0_setToWork_7 kX0_setToWork_X0_put ⟨rfl, rfl⟩ ⟨Nat.zero_le _, Nat.zero_le _⟩ (c_putH hΩ (j := 143 + c) (j' := 139 + c) (by omega) (by omega) ef1) rfl rfl ((hΩ _).1) rfl rfl ?_
  refine G_aload_n dX0_setToWork_10 rfl ?_
  refine G_sipush (v := 149) dX0_setToWork_11 (by decide) ?_
  refine G_iload_n dX0_setToWork_14 rfl ?_
  refine G_iaddN (a := 149) (c := c) (s := 149 + c) dX0_setToWork_15 (by omega) ?_
  refine G_iload_n dX0_setToWork_16 rfl ?_
  obtain ⟨f2, ef2⟩ : ∃ z : mj_S, z = upd f1 (145 + c) b := ⟨_, rfl⟩
  refine G_callVv dX0_setToWork_17 kX0_setToWork_X0_put ⟨rfl, rfl⟩ ⟨Nat.zero_le _, Nat.zero_le _⟩ (c_putH hΩ (j := 149 + c) (j' := 145 + c) (by omega) (by omega) ef2) rfl rfl ((hΩ _).1) rfl rfl ?_
  exact G_vret dX0_setToWork_20 ⟨Nat.zero_le _, Nat.zero_le _⟩ (by subst ef2; subst ef1; rfl)
theorem c_letRest (hΩ : LV lp ap Ω) {q f : mj_S} {c : Nat} (hc : c < 6) : MC l yX0_letRest wsX0_letRest rmX0_letRest false [.ref lp, .int (nI (c))] (Ω (row q f)) none (Ω (row q (s_setw f c (-1) (-1)))) := by
  refine mj_MC (cc := cX0_letRest) (nl := 2) (ret := none) (plainFor_of_name (by decide)) rfl (rfl) (Nat.le_of_ble_eq_true rfl) ?_
  show GG l cX0_letRest MX0_letRest false (.inl (none, Ω (row q (s_setw f c (-1) (-1))))) 0 [some (.ref lp), some (.int (nI (c)))] [] (Ω (row q f)) 0 0
  refine G_aload_n dX0_letRest_0 rfl ?_
  refine G_iload_n dX0_letRest_1 rfl ?_
  refine G_iconst (v := (-1)) dX0_letRest_2 (by decide) ?_
  refine G_iconst (v := (-1)) dX0_letRest_3 (by decide) ?_
  refine G_callVv dX0_letRest_4 kX0_letRest_X0_setToWork ⟨rfl, rfl⟩ ⟨Nat.zero_le _, Nat.zero_le _⟩ (c_setToWork hΩ (c := c) (by omega)) rfl rfl ((hΩ _).1) rfl rfl ?_
  exact G_vret dX0_letRest_7 ⟨Nat.zero_le _, Nat.zero_le _⟩ (rfl)
theorem lp_turnSnow (hΩ : LV lp ap Ω) {q res : mj_S} : ∀ (d c : Nat) (f : mj_S), c + d = 6 → res = itr (fun c a => s_setw a c (-1) (-1)) d c f → GG l cX0_turnSnow MX0_turnSnow false (.inl (none, Ω (row q res))) 23 [some (.ref lp), some (.int (nI (c)))] [] (Ω (row q f)) 0 0
  | 0, c, f, hc, hr => by
    refine G_iload_n dX0_turnSnow_23 rfl ?_
    refine G_bipush (v := 6) dX0_turnSnow_24 (by decide) ?_
    refine G_icmp_geN (a := c) (c := 6) 40 dX0_turnSnow_26 (by decide) (by omega) (fun c26 => ?_) (fun c26 => ?_)
    · exact G_vret dX0_turnSnow_40 ⟨Nat.zero_le _, Nat.zero_le _⟩ (by rw [hr, itr_0])
    · exact (show False by omega).elim
  | d + 1, c, f, hc, hr => by
    refine G_iload_n dX0_turnSnow_23 rfl ?_
    refine G_bipush (v := 6) dX0_turnSnow_24 (by decide) ?_
    refine G_icmp_geN (a := c) (c := 6) 40 dX0_turnSnow_26 (by decide) (by omega) (fun c26 => ?_) (fun c26 => ?_)
    · exact (show False by omega).elim
    · refine G_aload_n dX0_turnSnow_29 rfl ?_
      refine G_iload_n dX0_turnSnow_30 rfl ?_
      refine G_callVv dX0_turnSnow_31 kX0_turnSnow_X0_letRest ⟨rfl, rfl⟩ ⟨Nat.zero_le _, Nat.zero_le _⟩ (c_letRest hΩ (c := c) (by omega)) rfl rfl ((hΩ _).1) rfl rfl ?_
      refine G_iincN (a := c) (s := c + 1) dX0_turnSnow_34 rfl (by omega) (L' := [some (.ref lp), some (.int (nI (c + 1)))]) rfl ?_
      refine G_goto 23 dX0_turnSnow_37 (by decide) ?_
      exact lp_turnSnow hΩ d (c + 1) _ (by omega) hr
theorem c_turnSnow (hΩ : LV lp ap Ω) {q f : mj_S} : MC l yX0_turnSnow wsX0_turnSnow rmX0_turnSnow false [.ref lp] (Ω (row q f)) none (Ω (row q (s_turn f))) := by
  refine mj_MC (cc := cX0_turnSnow) (nl := 2) (ret := none) (plainFor_of_name (by decide)) rfl (rfl) (Nat.le_of_ble_eq_true rfl) ?_
  show GG l cX0_turnSnow MX0_turnSnow false (.inl (none, Ω (row q (s_turn f)))) 0 [some (.ref lp), none] [] (Ω (row q f)) 0 0
  refine G_aload_n dX0_turnSnow_0 rfl ?_
  refine G_iconst (v := 1) dX0_turnSnow_1 (by decide) ?_
  refine G_iconst (v := 1) dX0_turnSnow_2 (by decide) ?_
  refine G_aload_n dX0_turnSnow_3 rfl ?_
  refine G_iconst (v := 1) dX0_turnSnow_4 (by decide) ?_
  refine G_callVi dX0_turnSnow_5 kX0_turnSnow_X0_at ⟨rfl, rfl⟩ ⟨Nat.zero_le _, Nat.zero_le _⟩ (c_atL hΩ (j := 1) (by omega)) rfl rfl ((hΩ _).1) rfl rfl ?_
  refine G_isub dX0_turnSnow_8 ?_
  obtain ⟨f1, ef1⟩ : ∃ z : mj_S, z = upd f (1) (1 - (f (1))) := ⟨_, rfl⟩
  refine G_callVv dX0_turnSnow_9 kX0_turnSnow_X0_put ⟨rfl, rfl⟩ ⟨Nat.zero_le _, Nat.zero_le _⟩ (c_putL hΩ (j := 1) (by omega) ef1) rfl rfl ((hΩ _).1) rfl rfl ?_
  refine G_aload_n dX0_turnSnow_12 rfl ?_
  refine G_iconst (v := 1) dX0_turnSnow_13 (by decide) ?_
  refine G_callVi dX0_turnSnow_14 kX0_turnSnow_X0_at ⟨rfl, rfl⟩ ⟨Nat.zero_le _, Nat.zero_le _⟩ (c_atL hΩ (j := 1) (by omega)) rfl rfl ((hΩ _).1) rfl rfl ?_
  refine G_iconst (v := 1) dX0_turnSnow_17 (by decide) ?_
  refine G_icmp_ne 40 dX0_turnSnow_18 (by decide) (fun c18 => ?_) (fun c18 => ?_)
  · exact G_vret dX0_turnSnow_40 ⟨Nat.zero_le _, Nat.zero_le _⟩ (by rw [ef1, upd_s] at c18; rw [ef1, s_turn, if_neg c18])
  · refine G_iconst (v := 0) dX0_turnSnow_21 (by decide) ?_
    refine G_istore_n dX0_turnSnow_22 rfl (L' := [some (.ref lp), some (.int 0)]) rfl ?_
    exact lp_turnSnow hΩ 6 0 _ rfl (by rw [ef1, upd_s] at c18; rw [ef1, s_turn, if_pos c18])
theorem c_rainOf (hΩ : LV lp ap Ω) {q f : mj_S} {d sg : Nat} (hd : d < 2147483648) (hs : f 2 = nI sg) (hs9 : sg ≤ 9) : MC l yX0_rainOf wsX0_rainOf rmX0_rainOf false [.ref lp, .int (nI (d))] (Ω (row q f)) (some (.int (nI (s_rain f d)))) (Ω (row q f)) := by
  refine mj_MC (cc := cX0_rainOf) (nl := 2) (ret := (some .int)) (plainFor_of_name (by decide)) rfl (⟨_, rfl, rfl⟩) (Nat.le_of_ble_eq_true rfl) ?_
  show GG l cX0_rainOf MX0_rainOf false (.inl ((some (.int (nI (s_rain f d)))), Ω (row q f))) 0 [some (.ref lp), some (.int (nI (d)))] [] (Ω (row q f)) 0 0
  refine G_bipush (v := 7) dX0_rainOf_0 (by decide) ?_
  refine G_iload_n dX0_rainOf_2 rfl ?_
  refine G_bipush (v := 10) dX0_rainOf_3 (by decide) ?_
  refine G_callSi dX0_rainOf_5 kX0_rainOf_J9_floorMod_7cf53 ⟨rfl, rfl⟩ ⟨Nat.zero_le _, Nat.zero_le _⟩ (c_fmod (a := d) (c := 10) (by omega) (by omega)) rfl rfl rfl ?_
  refine G_imulN (a := 7) (c := ((d) % 10)) (s := 7 * ((d) % 10)) dX0_rainOf_8 (by omega) ?_
  refine G_aload_n dX0_rainOf_9 rfl ?_
  refine G_iconst (v := 2) dX0_rainOf_10 (by decide) ?_
  refine G_callVi dX0_rainOf_11 kX0_rainOf_X0_at ⟨rfl, rfl⟩ ⟨Nat.zero_le _, Nat.zero_le _⟩ (c_atL hΩ (j := 2) (by omega)) rfl rfl ((hΩ _).1) rfl rfl ?_
  refine G_eqi hs ?_
  refine G_iaddN (a := 7 * ((d) % 10)) (c := sg) (s := 7 * ((d) % 10) + sg) dX0_rainOf_14 (by omega) ?_
  refine G_bipush (v := 10) dX0_rainOf_15 (by decide) ?_
  refine G_callSi dX0_rainOf_17 kX0_rainOf_J9_floorMod_7cf53 ⟨rfl, rfl⟩ ⟨Nat.zero_le _, Nat.zero_le _⟩ (c_fmod (a := 7 * ((d) % 10) + sg) (c := 10) (by omega) (by omega)) rfl rfl rfl ?_
  exact G_iret dX0_rainOf_20 ⟨Nat.zero_le _, Nat.zero_le _⟩ (X_i (congrArg nI (by rw [s_rain, hs, nI_clamp (by omega)]; omega)))
theorem lp_tv1 (hΩ : LV lp ap Ω) {q f : mj_S} {p m : Nat} (hp : p + m ≤ 20) {res : Int32} : ∀ (d c : Nat) (x : Int32) (y : Option Value), c + d = m → res = itr (fun i a => a + s_tv f (i + p)) d c x → GG l cX0_turvesOn MX0_turvesOn false (.inl (some (.int res), Ω (row q f))) 6 [some (.ref lp), some (.int (nI p)), some (.int 1), some (.int (nI (m))), some (.int x), some (.int (nI c)), y] [] (Ω (row q f)) 0 0
  | 0, c, x, y, hc, hr => by
    refine G_iload dX0_turvesOn_6 rfl ?_
    refine G_iload_n dX0_turvesOn_8 rfl ?_
    refine G_icmp_geN (a := c) (c := m) 60 dX0_turvesOn_9 (by decide) (by omega) (fun c9 => ?_) (fun c9 => ?_)
    · refine G_iload dX0_turvesOn_60 rfl ?_
      exact G_iret dX0_turvesOn_62 ⟨Nat.zero_le _, Nat.zero_le _⟩ (by rw [hr, itr_0])
    · exact (show False by omega).elim
  | d + 1, c, x, y, hc, hr => by
    refine G_iload dX0_turvesOn_6 rfl ?_
    refine G_iload_n dX0_turvesOn_8 rfl ?_
    refine G_icmp_geN (a := c) (c := m) 60 dX0_turvesOn_9 (by decide) (by omega) (fun c9 => ?_) (fun c9 => ?_)
    · exact (show False by omega).elim
    · refine G_iload_n dX0_turvesOn_12 rfl ?_
      refine G_iload dX0_turvesOn_13 rfl ?_
      refine G_iload_n dX0_turvesOn_15 rfl ?_
      refine G_imulN (a := c) (c := 1) (s := c) dX0_turvesOn_16 (by omega) ?_
      refine G_iaddN (a := p) (c := c) (s := c + p) dX0_turvesOn_17 (by omega) ?_
      refine G_istore dX0_turvesOn_18 rfl (L' := [some (.ref lp), some (.int (nI (p))), some (.int 1), some (.int (nI (m))), some (.int x), some (.int (nI (c))), some (.int (nI (c + p)))]) rfl ?_
      refine G_iload dX0_turvesOn_20 rfl ?_
      refine G_aload_n dX0_turvesOn_22 rfl ?_
      refine G_bipush (v := 77) dX0_turvesOn_23 (by decide) ?_
      refine G_iload dX0_turvesOn_25 rfl ?_
      refine G_iaddN (a := 77) (c := c + p) (s := 77 + c + p) dX0_turvesOn_27 (by omega) ?_
      refine G_callVi dX0_turvesOn_28 kX0_turvesOn_X0_at ⟨rfl, rfl⟩ ⟨Nat.zero_le _, Nat.zero_le _⟩ (c_atH hΩ (j := 77 + c + p) (j' := 73 + c + p) (by omega) (by omega)) rfl rfl ((hΩ _).1) rfl rfl ?_
      refine G_aload_n dX0_turvesOn_31 rfl ?_
      refine G_bipush (v := 97) dX0_turvesOn_32 (by decide) ?_
      refine G_iload dX0_turvesOn_34 rfl ?_
      refine G_iaddN (a := 97) (c := c + p) (s := 97 + c + p) dX0_turvesOn_36 (by omega) ?_
      refine G_callVi dX0_turvesOn_37 kX0_turvesOn_X0_at ⟨rfl, rfl⟩ ⟨Nat.zero_le _, Nat.zero_le _⟩ (c_atH hΩ (j := 97 + c + p) (j' := 93 + c + p) (by omega) (by omega)) rfl rfl ((hΩ _).1) rfl rfl ?_
      refine G_iadd dX0_turvesOn_40 ?_
      refine G_aload_n dX0_turvesOn_41 rfl ?_
      refine G_bipush (v := 117) dX0_turvesOn_42 (by decide) ?_
      refine G_iload dX0_turvesOn_44 rfl ?_
      refine G_iaddN (a := 117) (c := c + p) (s := 117 + c + p) dX0_turvesOn_46 (by omega) ?_
      refine G_callVi dX0_turvesOn_47 kX0_turvesOn_X0_at ⟨rfl, rfl⟩ ⟨Nat.zero_le _, Nat.zero_le _⟩ (c_atH hΩ (j := 117 + c + p) (j' := 113 + c + p) (by omega) (by omega)) rfl rfl ((hΩ _).1) rfl rfl ?_
      refine G_iadd dX0_turvesOn_50 ?_
      refine G_iadd dX0_turvesOn_51 ?_
      refine G_istore dX0_turvesOn_52 rfl (L' := [some (.ref lp), some (.int (nI (p))), some (.int 1), some (.int (nI (m))), some (.int (x + (((f (73 + c + p)) + (f (93 + c + p))) + (f (113 + c + p))))), some (.int (nI (c))), some (.int (nI (c + p)))]) rfl ?_
      refine G_iincN (a := c) (s := c + 1) dX0_turvesOn_54 rfl (by omega) (L' := [some (.ref lp), some (.int (nI (p))), some (.int 1), some (.int (nI (m))), some (.int (x + (((f (73 + c + p)) + (f (93 + c + p))) + (f (113 + c + p))))), some (.int (nI (c + 1))), some (.int (nI (c + p)))]) rfl ?_
      refine G_goto 6 dX0_turvesOn_57 (by decide) ?_
      exact lp_tv1 hΩ hp d (c + 1) (x + (((f (73 + c + p)) + (f (93 + c + p))) + (f (113 + c + p)))) _ (by omega) (by rw [hr, itr_s, s_tv]; simp only [Nat.add_assoc])
theorem lp_tv4 (hΩ : LV lp ap Ω) {q f : mj_S} {p : Nat} (hp : p < 4) {res : Int32} : ∀ (d c : Nat) (x : Int32) (y : Option Value), c + d = 5 → res = itr (fun i a => a + s_tv f (4 * i + p)) d c x → GG l cX0_turvesOn MX0_turvesOn false (.inl (some (.int res), Ω (row q f))) 6 [some (.ref lp), some (.int (nI p)), some (.int 4), some (.int (nI (5))), some (.int x), some (.int (nI c)), y] [] (Ω (row q f)) 0 0
  | 0, c, x, y, hc, hr => by
    refine G_iload dX0_turvesOn_6 rfl ?_
    refine G_iload_n dX0_turvesOn_8 rfl ?_
    refine G_icmp_geN (a := c) (c := 5) 60 dX0_turvesOn_9 (by decide) (by omega) (fun c9 => ?_) (fun c9 => ?_)
    · refine G_iload dX0_turvesOn_60 rfl ?_
      exact G_iret dX0_turvesOn_62 ⟨Nat.zero_le _, Nat.zero_le _⟩ (by rw [hr, itr_0])
    · exact (show False by omega).elim
  | d + 1, c, x, y, hc, hr => by
    refine G_iload dX0_turvesOn_6 rfl ?_
    refine G_iload_n dX0_turvesOn_8 rfl ?_
    refine G_icmp_geN (a := c) (c := 5) 60 dX0_turvesOn_9 (by decide) (by omega) (fun c9 => ?_) (fun c9 => ?_)
    · exact (show False by omega).elim
    · refine G_iload_n dX0_turvesOn_12 rfl ?_
      refine G_iload dX0_turvesOn_13 rfl ?_
      refine G_iload_n dX0_turvesOn_15 rfl ?_
      refine G_imulN (a := c) (c := 4) (s := 4 * c) dX0_turvesOn_16 (by omega) ?_
      refine G_iaddN (a := p) (c := 4 * c) (s := 4 * c + p) dX0_turvesOn_17 (by omega) ?_
      refine G_istore dX0_turvesOn_18 rfl (L' := [some (.ref lp), some (.int (nI (p))), some (.int 4), some (.int 5), some (.int x), some (.int (nI (c))), some (.int (nI (4 * c + p)))]) rfl ?_
      refine G_iload dX0_turvesOn_20 rfl ?_
      refine G_aload_n dX0_turvesOn_22 rfl ?_
      refine G_bipush (v := 77) dX0_turvesOn_23 (by decide) ?_
      refine G_iload dX0_turvesOn_25 rfl ?_
      refine G_iaddN (a := 77) (c := 4 * c + p) (s := 77 + 4 * c + p) dX0_turvesOn_27 (by omega) ?_
      refine G_callVi dX0_turvesOn_28 kX0_turvesOn_X0_at ⟨rfl, rfl⟩ ⟨Nat.zero_le _, Nat.zero_le _⟩ (c_atH hΩ (j := 77 + 4 * c + p) (j' := 73 + 4 * c + p) (by omega) (by omega)) rfl rfl ((hΩ _).1) rfl rfl ?_
      refine G_aload_n dX0_turvesOn_31 rfl ?_
      refine G_bipush (v := 97) dX0_turvesOn_32 (by decide) ?_
      refine G_iload dX0_turvesOn_34 rfl ?_
      refine G_iaddN (a := 97) (c := 4 * c + p) (s := 97 + 4 * c + p) dX0_turvesOn_36 (by omega) ?_
      refine G_callVi dX0_turvesOn_37 kX0_turvesOn_X0_at ⟨rfl, rfl⟩ ⟨Nat.zero_le _, Nat.zero_le _⟩ (c_atH hΩ (j := 97 + 4 * c + p) (j' := 93 + 4 * c + p) (by omega) (by omega)) rfl rfl ((hΩ _).1) rfl rfl ?_
      refine G_iadd dX0_turvesOn_40 ?_
      refine G_aload_n dX0_turvesOn_41 rfl ?_
      refine G_bipush (v := 117) dX0_turvesOn_42 (by decide) ?_
      refine G_iload dX0_turvesOn_44 rfl ?_
      refine G_iaddN (a := 117) (c := 4 * c + p) (s := 117 + 4 * c + p) dX0_turvesOn_46 (by omega) ?_
      refine G_callVi dX0_turvesOn_47 kX0_turvesOn_X0_at ⟨rfl, rfl⟩ ⟨Nat.zero_le _, Nat.zero_le _⟩ (c_atH hΩ (j := 117 + 4 * c + p) (j' := 113 + 4 * c + p) (by omega) (by omega)) rfl rfl ((hΩ _).1) rfl rfl ?_
      refine G_iadd dX0_turvesOn_50 ?_
      refine G_iadd dX0_turvesOn_51 ?_
      refine G_istore dX0_turvesOn_52 rfl (L' := [some (.ref lp), some (.int (nI (p))), some (.int 4), some (.int 5), some (.int (x + (((f (73 + 4 * c + p)) + (f (93 + 4 * c + p))) + (f (113 + 4 * c + p))))), some (.int (nI (c))), some (.int (nI (4 * c + p)))]) rfl ?_
      refine G_iincN (a := c) (s := c + 1) dX0_turvesOn_54 rfl (by omega) (L' := [some (.ref lp), some (.int (nI (p))), some (.int 4), some (.int 5), some (.int (x + (((f (73 + 4 * c + p)) + (f (93 + 4 * c + p))) + (f (113 + 4 * c + p))))), some (.int (nI (c + 1))), some (.int (nI (4 * c + p)))]) rfl ?_
      refine G_goto 6 dX0_turvesOn_57 (by decide) ?_
      exact lp_tv4 hΩ hp d (c + 1) (x + (((f (73 + 4 * c + p)) + (f (93 + 4 * c + p))) + (f (113 + 4 * c + p)))) _ (by omega) (by rw [hr, itr_s, s_tv]; simp only [Nat.add_assoc])
theorem c_tv (hΩ : LV lp ap Ω) {q f : mj_S} {p m : Nat} (hp : p + m ≤ 20) : MC l yX0_turvesOn wsX0_turvesOn rmX0_turvesOn false [.ref lp, .int (nI p), .int 1, .int (nI m)] (Ω (row q f)) (some (.int (itr (fun i a => a + s_tv f (i + p)) m 0 0))) (Ω (row q f)) := by
  refine mj_MC (cc := cX0_turvesOn) (nl := 7) (ret := (some .int)) (plainFor_of_name (by decide)) rfl (⟨_, rfl, rfl⟩) (Nat.le_of_ble_eq_true rfl) ?_
  show GG l cX0_turvesOn MX0_turvesOn false (.inl ((some (.int (itr (fun i a => a + s_tv f (i + p)) m 0 0))), Ω (row q f))) 0 [some (.ref lp), some (.int (nI (p))), some (.int 1), some (.int (nI (m))), none, none, none] [] (Ω (row q f)) 0 0
  refine G_iconst (v := 0) dX0_turvesOn_0 (by decide) ?_
  refine G_istore dX0_turvesOn_1 rfl (L' := [some (.ref lp), some (.int (nI (p))), some (.int 1), some (.int (nI (m))), some (.int 0), none, none]) rfl ?_
  refine G_iconst (v := 0) dX0_turvesOn_3 (by decide) ?_
  refine G_istore dX0_turvesOn_4 rfl (L' := [some (.ref lp), some (.int (nI (p))), some (.int 1), some (.int (nI (m))), some (.int 0), some (.int 0), none]) rfl ?_
  exact lp_tv1 hΩ hp m 0 0 _ (by omega) rfl
theorem c_tv4 (hΩ : LV lp ap Ω) {q f : mj_S} {p : Nat} (hp : p < 4) : MC l yX0_turvesOn wsX0_turvesOn rmX0_turvesOn false [.ref lp, .int (nI (p)), .int 4, .int 5] (Ω (row q f)) (some (.int (itr (fun i a => a + s_tv f (4 * i + p)) 5 0 0))) (Ω (row q f)) := by
  refine mj_MC (cc := cX0_turvesOn) (nl := 7) (ret := (some .int)) (plainFor_of_name (by decide)) rfl (⟨_, rfl, rfl⟩) (Nat.le_of_ble_eq_true rfl) ?_
  show GG l cX0_turvesOn MX0_turvesOn false (.inl ((some (.int (itr (fun i a => a + s_tv f (4 * i + p)) 5 0 0))), Ω (row q f))) 0 [some (.ref lp), some (.int (nI (p))), some (.int 4), some (.int 5), none, none, none] [] (Ω (row q f)) 0 0
  refine G_iconst (v := 0) dX0_turvesOn_0 (by decide) ?_
  refine G_istore dX0_turvesOn_1 rfl (L' := [some (.ref lp), some (.int (nI (p))), some (.int 4), some (.int 5), some (.int 0), none, none]) rfl ?_
  refine G_iconst (v := 0) dX0_turvesOn_3 (by decide) ?_
  refine G_istore dX0_turvesOn_4 rfl (L' := [some (.ref lp), some (.int (nI (p))), some (.int 4), some (.int 5), some (.int 0), some (.int 0), none]) rfl ?_
  exact lp_tv4 hΩ hp 5 0 0 _ rfl rfl
theorem c_tvB (hΩ : LV lp ap Ω) {q f : mj_S} {b : Nat} (hb : b < 4) : MC l yX0_turvesOn wsX0_turvesOn rmX0_turvesOn false [.ref lp, .int (nI b), .int 4, .int 5] (Ω (row q f)) (some (.int (s_tvB f b))) (Ω (row q f)) := by
  have e := c_tv4 hΩ (l := l) (q := q) (f := f) hb
  have e2 : itr (fun i a => a + s_tv f (4 * i + b)) 5 0 0 = s_tvB f b := itr_congr _ _ _ (fun k _ _ x => by rw [Nat.add_comm])
  rwa [e2] at e
theorem c_tvH (hΩ : LV lp ap Ω) {q f : mj_S} {h : Nat} (hh : h < 5) : MC l yX0_turvesOn wsX0_turvesOn rmX0_turvesOn false [.ref lp, .int (nI (4 * h)), .int 1, .int 4] (Ω (row q f)) (some (.int (s_tvH f h))) (Ω (row q f)) := c_tv hΩ (p := 4 * h) (m := 4) (by omega)
theorem c_tv1 (hΩ : LV lp ap Ω) {q f : mj_S} {p : Nat} (hp : p < 20) : MC l yX0_turvesOn wsX0_turvesOn rmX0_turvesOn false [.ref lp, .int (nI p), .int 1, .int 1] (Ω (row q f)) (some (.int (s_tv f p))) (Ω (row q f)) := by
  have e := c_tv hΩ (l := l) (q := q) (f := f) (p := p) (m := 1) (by omega)
  have e2 : itr (fun i a => a + s_tv f (i + p)) 1 0 0 = s_tv f p := by simp [itr]
  rwa [e2] at e
theorem c_tv20 (hΩ : LV lp ap Ω) {q f : mj_S} : MC l yX0_turvesOn wsX0_turvesOn rmX0_turvesOn false [.ref lp, .int 0, .int 1, .int 20] (Ω (row q f)) (some (.int (s_tvA f))) (Ω (row q f)) := c_tv hΩ (p := 0) (m := 20) (by omega)
theorem c_turvesOnBanks (hΩ : LV lp ap Ω) {q f : mj_S} : MC l yX0_turvesOnBanks wsX0_turvesOnBanks rmX0_turvesOnBanks false [.ref lp] (Ω (row q f)) (some (.int (s_tvA f))) (Ω (row q f)) := by
  refine mj_MC (cc := cX0_turvesOnBanks) (nl := 1) (ret := (some .int)) (plainFor_of_name (by decide)) rfl (⟨_, rfl, rfl⟩) (Nat.le_of_ble_eq_true rfl) ?_
  show GG l cX0_turvesOnBanks MX0_turvesOnBanks false (.inl ((some (.int (s_tvA f))), Ω (row q f))) 0 [some (.ref lp)] [] (Ω (row q f)) 0 0
  refine G_aload_n dX0_turvesOnBanks_0 rfl ?_
  refine G_iconst (v := 0) dX0_turvesOnBanks_1 (by decide) ?_
  refine G_iconst (v := 1) dX0_turvesOnBanks_2 (by decide) ?_
  refine G_bipush (v := 20) dX0_turvesOnBanks_3 (by decide) ?_
  refine G_callVi dX0_turvesOnBanks_5 kX0_turvesOnBanks_X0_turvesOn ⟨rfl, rfl⟩ ⟨Nat.zero_le _, Nat.zero_le _⟩ (c_tv20 hΩ) rfl rfl ((hΩ _).1) rfl rfl ?_
  exact G_iret dX0_turvesOnBanks_8 ⟨Nat.zero_le _, Nat.zero_le _⟩ (rfl)
theorem c_shortBy (hΩ : LV lp ap Ω) {q f : mj_S} {h : Nat} (hh : h < 5) : MC l yX0_shortBy wsX0_shortBy rmX0_shortBy false [.ref lp, .int (nI (h))] (Ω (row q f)) (some (.int (s_sh f h))) (Ω (row q f)) := by
  refine mj_MC (cc := cX0_shortBy) (nl := 2) (ret := (some .int)) (plainFor_of_name (by decide)) rfl (⟨_, rfl, rfl⟩) (Nat.le_of_ble_eq_true rfl) ?_
  show GG l cX0_shortBy MX0_shortBy false (.inl ((some (.int (s_sh f h))), Ω (row q f))) 0 [some (.ref lp), some (.int (nI (h)))] [] (Ω (row q f)) 0 0
  refine G_iconst (v := 0) dX0_shortBy_0 (by decide) ?_
  refine G_aload_n dX0_shortBy_1 rfl ?_
  refine G_bipush (v := 10) dX0_shortBy_2 (by decide) ?_
  refine G_iload_n dX0_shortBy_4 rfl ?_
  refine G_iaddN (a := 10) (c := h) (s := 10 + h) dX0_shortBy_5 (by omega) ?_
  refine G_callVi dX0_shortBy_6 kX0_shortBy_X0_at ⟨rfl, rfl⟩ ⟨Nat.zero_le _, Nat.zero_le _⟩ (c_atL hΩ (j := 10 + h) (by omega)) rfl rfl ((hΩ _).1) rfl rfl ?_
  refine G_aload_n dX0_shortBy_9 rfl ?_
  refine G_bipush (v := 15) dX0_shortBy_10 (by decide) ?_
  refine G_iload_n dX0_shortBy_12 rfl ?_
  refine G_iaddN (a := 15) (c := h) (s := 15 + h) dX0_shortBy_13 (by omega) ?_
  refine G_callVi dX0_shortBy_14 kX0_shortBy_X0_at ⟨rfl, rfl⟩ ⟨Nat.zero_le _, Nat.zero_le _⟩ (c_atL hΩ (j := 15 + h) (by omega)) rfl rfl ((hΩ _).1) rfl rfl ?_
  refine G_isub dX0_shortBy_17 ?_
  refine G_max dX0_shortBy_18 kX0_shortBy_Mmax (by decide) ⟨Nat.zero_le _, Nat.zero_le _⟩ (Nat.le_of_ble_eq_true rfl) ?_
  exact G_iret dX0_shortBy_21 ⟨Nat.zero_le _, Nat.zero_le _⟩ (X_i (by rw [mx0_max]; rfl))
theorem c_willBeShortBy (hΩ : LV lp ap Ω) {q f : mj_S} {h : Nat} (hh : h < 5) : MC l yX0_willBeShortBy wsX0_willBeShortBy rmX0_willBeShortBy false [.ref lp, .int (nI (h))] (Ω (row q f)) (some (.int (s_sh2 f h))) (Ω (row q f)) := by
  refine mj_MC (cc := cX0_willBeShortBy) (nl := 2) (ret := (some .int)) (plainFor_of_name (by decide)) rfl (⟨_, rfl, rfl⟩) (Nat.le_of_ble_eq_true rfl) ?_
  show GG l cX0_willBeShortBy MX0_willBeShortBy false (.inl ((some (.int (s_sh2 f h))), Ω (row q f))) 0 [some (.ref lp), some (.int (nI (h)))] [] (Ω (row q f)) 0 0
  refine G_iconst (v := 0) dX0_willBeShortBy_0 (by decide) ?_
  refine G_aload_n dX0_willBeShortBy_1 rfl ?_
  refine G_bipush (v := 10) dX0_willBeShortBy_2 (by decide) ?_
  refine G_iload_n dX0_willBeShortBy_4 rfl ?_
  refine G_iaddN (a := 10) (c := h) (s := 10 + h) dX0_willBeShortBy_5 (by omega) ?_
  refine G_callVi dX0_willBeShortBy_6 kX0_willBeShortBy_X0_at ⟨rfl, rfl⟩ ⟨Nat.zero_le _, Nat.zero_le _⟩ (c_atL hΩ (j := 10 + h) (by omega)) rfl rfl ((hΩ _).1) rfl rfl ?_
  refine G_aload_n dX0_willBeShortBy_9 rfl ?_
  refine G_bipush (v := 15) dX0_willBeShortBy_10 (by decide) ?_
  refine G_iload_n dX0_willBeShortBy_12 rfl ?_
  refine G_iaddN (a := 15) (c := h) (s := 15 + h) dX0_willBeShortBy_13 (by omega) ?_
  refine G_callVi dX0_willBeShortBy_14 kX0_willBeShortBy_X0_at ⟨rfl, rfl⟩ ⟨Nat.zero_le _, Nat.zero_le _⟩ (c_atL hΩ (j := 15 + h) (by omega)) rfl rfl ((hΩ _).1) rfl rfl ?_
  refine G_isub dX0_willBeShortBy_17 ?_
  refine G_aload_n dX0_willBeShortBy_18 rfl ?_
  refine G_iload_n dX0_willBeShortBy_19 rfl ?_
  refine G_iconst (v := 0) dX0_willBeShortBy_20 (by decide) ?_
  refine G_callSi dX0_willBeShortBy_21 kX0_willBeShortBy_X0_plotOf ⟨rfl, rfl⟩ ⟨Nat.zero_le _, Nat.zero_le _⟩ (c_plotOfN (h := h) (b := 0) (s := 4 * h) (by omega)) rfl rfl rfl ?_
  refine G_iconst (v := 1) dX0_willBeShortBy_24 (by decide) ?_
  refine G_iconst (v := 4) dX0_willBeShortBy_25 (by decide) ?_
  refine G_callVi dX0_willBeShortBy_26 kX0_willBeShortBy_X0_turvesOn ⟨rfl, rfl⟩ ⟨Nat.zero_le _, Nat.zero_le _⟩ (c_tvH hΩ (h := h) (by omega)) rfl rfl ((hΩ _).1) rfl rfl ?_
  refine G_isub dX0_willBeShortBy_29 ?_
  refine G_max dX0_willBeShortBy_30 kX0_willBeShortBy_Mmax (by decide) ⟨Nat.zero_le _, Nat.zero_le _⟩ (Nat.le_of_ble_eq_true rfl) ?_
  exact G_iret dX0_willBeShortBy_33 ⟨Nat.zero_le _, Nat.zero_le _⟩ (X_i (by rw [mx0_max]; rfl))
theorem c_willBeShortByTheBook (hΩ : LV lp ap Ω) {q f : mj_S} {h : Nat} (hh : h < 5) : MC l yX0_willBeShortByTheBook wsX0_willBeShortByTheBook rmX0_willBeShortByTheBook false [.ref lp, .int (nI (h))] (Ω (row q f)) (some (.int (s_sh3 f h))) (Ω (row q f)) := by
  refine mj_MC (cc := cX0_willBeShortByTheBook) (nl := 4) (ret := (some .int)) (plainFor_of_name (by decide)) rfl (⟨_, rfl, rfl⟩) (Nat.le_of_ble_eq_true rfl) ?_
  show GG l cX0_willBeShortByTheBook MX0_willBeShortByTheBook false (.inl ((some (.int (s_sh3 f h))), Ω (row q f))) 0 [some (.ref lp), some (.int (nI (h))), none, none] [] (Ω (row q f)) 0 0
  refine G_aload_n dX0_willBeShortByTheBook_0 rfl ?_
  refine G_bipush (v := 20) dX0_willBeShortByTheBook_1 (by decide) ?_
  refine G_iload_n dX0_willBeShortByTheBook_3 rfl ?_
  refine G_iaddN (a := 20) (c := h) (s := 20 + h) dX0_willBeShortByTheBook_4 (by omega) ?_
  refine G_callVi dX0_willBeShortByTheBook_5 kX0_willBeShortByTheBook_X0_at ⟨rfl, rfl⟩ ⟨Nat.zero_le _, Nat.zero_le _⟩ (c_atL hΩ (j := 20 + h) (by omega)) rfl rfl ((hΩ _).1) rfl rfl ?_
  refine G_aload_n dX0_willBeShortByTheBook_8 rfl ?_
  refine G_bipush (v := 25) dX0_willBeShortByTheBook_9 (by decide) ?_
  refine G_iload_n dX0_willBeShortByTheBook_11 rfl ?_
  refine G_iaddN (a := 25) (c := h) (s := 25 + h) dX0_willBeShortByTheBook_12 (by omega) ?_
  refine G_callVi dX0_willBeShortByTheBook_13 kX0_willBeShortByTheBook_X0_at ⟨rfl, rfl⟩ ⟨Nat.zero_le _, Nat.zero_le _⟩ (c_atL hΩ (j := 25 + h) (by omega)) rfl rfl ((hΩ _).1) rfl rfl ?_
  refine G_iadd dX0_willBeShortByTheBook_16 ?_
  refine G_istore_n dX0_willBeShortByTheBook_17 rfl (L' := [some (.ref lp), some (.int (nI (h))), some (.int ((f (20 + h)) + (f (25 + h)))), none]) rfl ?_
  refine G_aload_n dX0_willBeShortByTheBook_18 rfl ?_
  refine G_bipush (v := 30) dX0_willBeShortByTheBook_19 (by decide) ?_
  refine G_iload_n dX0_willBeShortByTheBook_21 rfl ?_
  refine G_iaddN (a := 30) (c := h) (s := 30 + h) dX0_willBeShortByTheBook_22 (by omega) ?_
  refine G_callVi dX0_willBeShortByTheBook_23 kX0_willBeShortByTheBook_X0_at ⟨rfl, rfl⟩ ⟨Nat.zero_le _, Nat.zero_le _⟩ (c_atL hΩ (j := 30 + h) (by omega)) rfl rfl ((hΩ _).1) rfl rfl ?_
  refine G_aload_n dX0_willBeShortByTheBook_26 rfl ?_
  refine G_bipush (v := 35) dX0_willBeShortByTheBook_27 (by decide) ?_
  refine G_iload_n dX0_willBeShortByTheBook_29 rfl ?_
  refine G_iaddN (a := 35) (c := h) (s := 35 + h) dX0_willBeShortByTheBook_30 (by omega) ?_
  refine G_callVi dX0_willBeShortByTheBook_31 kX0_willBeShortByTheBook_X0_at ⟨rfl, rfl⟩ ⟨Nat.zero_le _, Nat.zero_le _⟩ (c_atL hΩ (j := 35 + h) (by omega)) rfl rfl ((hΩ _).1) rfl rfl ?_
  refine G_iadd dX0_willBeShortByTheBook_34 ?_
  refine G_istore_n dX0_willBeShortByTheBook_35 rfl (L' := [some (.ref lp), some (.int (nI (h))), some (.int ((f (20 + h)) + (f (25 + h)))), some (.int ((f (30 + h)) + (f (35 + h))))]) rfl ?_
  refine G_iconst (v := 0) dX0_willBeShortByTheBook_36 (by decide) ?_
  refine G_aload_n dX0_willBeShortByTheBook_37 rfl ?_
  refine G_bipush (v := 10) dX0_willBeShortByTheBook_38 (by decide) ?_
  refine G_iload_n dX0_willBeShortByTheBook_40 rfl ?_
  refine G_iaddN (a := 10) (c := h) (s := 10 + h) dX0_willBeShortByTheBook_41 (by omega) ?_
  refine G_callVi dX0_willBeShortByTheBook_42 kX0_willBeShortByTheBook_X0_at ⟨rfl, rfl⟩ ⟨Nat.zero_le _, Nat.zero_le _⟩ (c_atL hΩ (j := 10 + h) (by omega)) rfl rfl ((hΩ _).1) rfl rfl ?_
  refine G_iload_n dX0_willBeShortByTheBook_45 rfl ?_
  refine G_iload_n dX0_willBeShortByTheBook_46 rfl ?_
  refine G_isub dX0_willBeShortByTheBook_47 ?_
  refine G_isub dX0_willBeShortByTheBook_48 ?_
  refine G_max dX0_willBeShortByTheBook_49 kX0_willBeShortByTheBook_Mmax (by decide) ⟨Nat.zero_le _, Nat.zero_le _⟩ (Nat.le_of_ble_eq_true rfl) ?_
  exact G_iret dX0_willBeShortByTheBook_52 ⟨Nat.zero_le _, Nat.zero_le _⟩ (X_i (by rw [mx0_max, s_sh3]; congr 2; grind))
theorem lp_hearthsShort (hΩ : LV lp ap Ω) {q f : mj_S} {res : Int32} : ∀ (d c : Nat) (x : Int32), c + d = 5 → res = itr (fun h a => if 0 < s_sh f h then a + 1 else a) d c x → GG l cX0_hearthsShort MX0_hearthsShort false (.inl (some (.int res), Ω (row q f))) 4 [some (.ref lp), some (.int x), some (.int (nI (c)))] [] (Ω (row q f)) 0 0
  | 0, c, x, hc, hr => by
    refine G_iload_n dX0_hearthsShort_4 rfl ?_
    refine G_iconst (v := 5) dX0_hearthsShort_5 (by decide) ?_
    refine G_icmp_geN (a := c) (c := 5) 31 dX0_hearthsShort_6 (by decide) (by omega) (fun c6 => ?_) (fun c6 => ?_)
    · refine G_iload_n dX0_hearthsShort_31 rfl ?_
      exact G_iret dX0_hearthsShort_32 ⟨Nat.zero_le _, Nat.zero_le _⟩ (by rw [hr, itr_0])
    · exact (show False by omega).elim
  | d + 1, c, x, hc, hr => by
    refine G_iload_n dX0_hearthsShort_4 rfl ?_
    refine G_iconst (v := 5) dX0_hearthsShort_5 (by decide) ?_
    refine G_icmp_geN (a := c) (c := 5) 31 dX0_hearthsShort_6 (by decide) (by omega) (fun c6 => ?_) (fun c6 => ?_)
    · exact (show False by omega).elim
    · refine G_iload_n dX0_hearthsShort_9 rfl ?_
      refine G_aload_n dX0_hearthsShort_10 rfl ?_
      refine G_iload_n dX0_hearthsShort_11 rfl ?_
      refine G_callVi dX0_hearthsShort_12 kX0_hearthsShort_X0_shortBy ⟨rfl, rfl⟩ ⟨Nat.zero_le _, Nat.zero_le _⟩ (c_shortBy hΩ (h := c) (by omega)) rfl rfl ((hΩ _).1) rfl rfl ?_
      refine G_if_le 22 dX0_hearthsShort_15 (by decide) (fun c15 => ?_) (fun c15 => ?_)
      · refine G_iconst (v := 0) dX0_hearthsShort_22 (by decide) ?_
        refine G_iadd dX0_hearthsShort_23 ?_
        refine G_istore_n dX0_hearthsShort_24 rfl (L' := [some (.ref lp), some (.int (x + 0)), some (.int (nI (c)))]) rfl ?_
        refine G_iincN (a := c) (s := c + 1) dX0_hearthsShort_25 rfl (by omega) (L' := [some (.ref lp), some (.int (x + 0)), some (.int (nI (c + 1)))]) rfl ?_
        refine G_goto 4 dX0_hearthsShort_28 (by decide) ?_
        exact lp_hearthsShort hΩ d (c + 1) (x + 0) (by omega) (by rw [hr, itr_s]; congr 1; simp [Int32.not_lt.mpr c15])
      · refine G_iconst (v := 1) dX0_hearthsShort_18 (by decide) ?_
        refine G_goto 23 dX0_hearthsShort_19 (by decide) ?_
        refine G_iadd dX0_hearthsShort_23 ?_
        refine G_istore_n dX0_hearthsShort_24 rfl (L' := [some (.ref lp), some (.int (x + 1)), some (.int (nI (c)))]) rfl ?_
        refine G_iincN (a := c) (s := c + 1) dX0_hearthsShort_25 rfl (by omega) (L' := [some (.ref lp), some (.int (x + 1)), some (.int (nI (c + 1)))]) rfl ?_
        refine G_goto 4 dX0_hearthsShort_28 (by decide) ?_
        exact lp_hearthsShort hΩ d (c + 1) (x + 1) (by omega) (by rw [hr, itr_s]; congr 1; simp [Int32.not_le.mp c15])
theorem c_hearthsShort (hΩ : LV lp ap Ω) {q f : mj_S} : MC l yX0_hearthsShort wsX0_hearthsShort rmX0_hearthsShort false [.ref lp] (Ω (row q f)) (some (.int (s_shs f))) (Ω (row q f)) := by
  refine mj_MC (cc := cX0_hearthsShort) (nl := 3) (ret := (some .int)) (plainFor_of_name (by decide)) rfl (⟨_, rfl, rfl⟩) (Nat.le_of_ble_eq_true rfl) ?_
  show GG l cX0_hearthsShort MX0_hearthsShort false (.inl ((some (.int (s_shs f))), Ω (row q f))) 0 [some (.ref lp), none, none] [] (Ω (row q f)) 0 0
  refine G_iconst (v := 0) dX0_hearthsShort_0 (by decide) ?_
  refine G_istore_n dX0_hearthsShort_1 rfl (L' := [some (.ref lp), some (.int 0), none]) rfl ?_
  refine G_iconst (v := 0) dX0_hearthsShort_2 (by decide) ?_
  refine G_istore_n dX0_hearthsShort_3 rfl (L' := [some (.ref lp), some (.int 0), some (.int 0)]) rfl ?_
  exact lp_hearthsShort hΩ 5 0 0 rfl rfl
theorem lp_hearthsThatWillBeShort (hΩ : LV lp ap Ω) {q f : mj_S} {res : Int32} : ∀ (d c : Nat) (x : Int32), c + d = 5 → res = itr (fun h a => if 0 < s_sh2 f h then a + 1 else a) d c x → GG l cX0_hearthsThatWillBeShort MX0_hearthsThatWillBeShort false (.inl (some (.int res), Ω (row q f))) 4 [some (.ref lp), some (.int x), some (.int (nI (c)))] [] (Ω (row q f)) 0 0
  | 0, c, x, hc, hr => by
    refine G_iload_n dX0_hearthsThatWillBeShort_4 rfl ?_
    refine G_iconst (v := 5) dX0_hearthsThatWillBeShort_5 (by decide) ?_
    refine G_icmp_geN (a := c) (c := 5) 31 dX0_hearthsThatWillBeShort_6 (by decide) (by omega) (fun c6 => ?_) (fun c6 => ?_)
    · refine G_iload_n dX0_hearthsThatWillBeShort_31 rfl ?_
      exact G_iret dX0_hearthsThatWillBeShort_32 ⟨Nat.zero_le _, Nat.zero_le _⟩ (by rw [hr, itr_0])
    · exact (show False by omega).elim
  | d + 1, c, x, hc, hr => by
    refine G_iload_n dX0_hearthsThatWillBeShort_4 rfl ?_
    refine G_iconst (v := 5) dX0_hearthsThatWillBeShort_5 (by decide) ?_
    refine G_icmp_geN (a := c) (c := 5) 31 dX0_hearthsThatWillBeShort_6 (by decide) (by omega) (fun c6 => ?_) (fun c6 => ?_)
    · exact (show False by omega).elim
    · refine G_iload_n dX0_hearthsThatWillBeShort_9 rfl ?_
      refine G_aload_n dX0_hearthsThatWillBeShort_10 rfl ?_
      refine G_iload_n dX0_hearthsThatWillBeShort_11 rfl ?_
      refine G_callVi dX0_hearthsThatWillBeShort_12 kX0_hearthsThatWillBeShort_X0_willBeShortBy ⟨rfl, rfl⟩ ⟨Nat.zero_le _, Nat.zero_le _⟩ (c_willBeShortBy hΩ (h := c) (by omega)) rfl rfl ((hΩ _).1) rfl rfl ?_
      refine G_if_le 22 dX0_hearthsThatWillBeShort_15 (by decide) (fun c15 => ?_) (fun c15 => ?_)
      · refine G_iconst (v := 0) dX0_hearthsThatWillBeShort_22 (by decide) ?_
        refine G_iadd dX0_hearthsThatWillBeShort_23 ?_
        refine G_istore_n dX0_hearthsThatWillBeShort_24 rfl (L' := [some (.ref lp), some (.int (x + 0)), some (.int (nI (c)))]) rfl ?_
        refine G_iincN (a := c) (s := c + 1) dX0_hearthsThatWillBeShort_25 rfl (by omega) (L' := [some (.ref lp), some (.int (x + 0)), some (.int (nI (c + 1)))]) rfl ?_
        refine G_goto 4 dX0_hearthsThatWillBeShort_28 (by decide) ?_
        exact lp_hearthsThatWillBeShort hΩ d (c + 1) (x + 0) (by omega) (by rw [hr, itr_s]; congr 1; simp [Int32.not_lt.mpr c15])
      · refine G_iconst (v := 1) dX0_hearthsThatWillBeShort_18 (by decide) ?_
        refine G_goto 23 dX0_hearthsThatWillBeShort_19 (by decide) ?_
        refine G_iadd dX0_hearthsThatWillBeShort_23 ?_
        refine G_istore_n dX0_hearthsThatWillBeShort_24 rfl (L' := [some (.ref lp), some (.int (x + 1)), some (.int (nI (c)))]) rfl ?_
        refine G_iincN (a := c) (s := c + 1) dX0_hearthsThatWillBeShort_25 rfl (by omega) (L' := [some (.ref lp), some (.int (x + 1)), some (.int (nI (c + 1)))]) rfl ?_
        refine G_goto 4 dX0_hearthsThatWillBeShort_28 (by decide) ?_
        exact lp_hearthsThatWillBeShort hΩ d (c + 1) (x + 1) (by omega) (by rw [hr, itr_s]; congr 1; simp [Int32.not_le.mp c15])
theorem c_hearthsThatWillBeShort (hΩ : LV lp ap Ω) {q f : mj_S} : MC l yX0_hearthsThatWillBeShort wsX0_hearthsThatWillBeShort rmX0_hearthsThatWillBeShort false [.ref lp] (Ω (row q f)) (some (.int (s_shs2 f))) (Ω (row q f)) := by
  refine mj_MC (cc := cX0_hearthsThatWillBeShort) (nl := 3) (ret := (some .int)) (plainFor_of_name (by decide)) rfl (⟨_, rfl, rfl⟩) (Nat.le_of_ble_eq_true rfl) ?_
  show GG l cX0_hearthsThatWillBeShort MX0_hearthsThatWillBeShort false (.inl ((some (.int (s_shs2 f))), Ω (row q f))) 0 [some (.ref lp), none, none] [] (Ω (row q f)) 0 0
  refine G_iconst (v := 0) dX0_hearthsThatWillBeShort_0 (by decide) ?_
  refine G_istore_n dX0_hearthsThatWillBeShort_1 rfl (L' := [some (.ref lp), some (.int 0), none]) rfl ?_
  refine G_iconst (v := 0) dX0_hearthsThatWillBeShort_2 (by decide) ?_
  refine G_istore_n dX0_hearthsThatWillBeShort_3 rfl (L' := [some (.ref lp), some (.int 0), some (.int 0)]) rfl ?_
  exact lp_hearthsThatWillBeShort hΩ 5 0 0 rfl rfl
theorem c_wetAgain (hΩ : LV lp ap Ω) {q f : mj_S} {p : Nat} (hp : p < 20) : MC l yX0_wetAgain wsX0_wetAgain rmX0_wetAgain false [.ref lp, .int (nI (p))] (Ω (row q f)) none (Ω (row q (s_soak p f))) := by
  refine mj_MC (cc := cX0_wetAgain) (nl := 4) (ret := none) (plainFor_of_name (by decide)) rfl (rfl) (Nat.le_of_ble_eq_true rfl) ?_
  show GG l cX0_wetAgain MX0_wetAgain false (.inl (none, Ω (row q (s_soak p f)))) 0 [some (.ref lp), some (.int (nI (p))), none, none] [] (Ω (row q f)) 0 0
  refine G_aload_n dX0_wetAgain_0 rfl ?_
  refine G_bipush (v := 97) dX0_wetAgain_1 (by decide) ?_
  refine G_iload_n dX0_wetAgain_3 rfl ?_
  refine G_iaddN (a := 97) (c := p) (s := 97 + p) dX0_wetAgain_4 (by omega) ?_
  refine G_callVi dX0_wetAgain_5 kX0_wetAgain_X0_at ⟨rfl, rfl⟩ ⟨Nat.zero_le _, Nat.zero_le _⟩ (c_atH hΩ (j := 97 + p) (j' := 93 + p) (by omega) (by omega)) rfl rfl ((hΩ _).1) rfl rfl ?_
  refine G_callSi dX0_wetAgain_8 kX0_wetAgain_X0_halfRoundedUp ⟨rfl, rfl⟩ ⟨Nat.zero_le _, Nat.zero_le _⟩ (c_half) rfl rfl rfl ?_
  refine G_istore_n dX0_wetAgain_11 rfl (L' := [some (.ref lp), some (.int (nI (p))), some (.int (((f (93 + p)) + 1) / 2)), none]) rfl ?_
  refine G_aload_n dX0_wetAgain_12 rfl ?_
  refine G_bipush (v := 117) dX0_wetAgain_13 (by decide) ?_
  refine G_iload_n dX0_wetAgain_15 rfl ?_
  refine G_iaddN (a := 117) (c := p) (s := 117 + p) dX0_wetAgain_16 (by omega) ?_
  refine G_callVi dX0_wetAgain_17 kX0_wetAgain_X0_at ⟨rfl, rfl⟩ ⟨Nat.zero_le _, Nat.zero_le _⟩ (c_atH hΩ (j := 117 + p) (j' := 113 + p) (by omega) (by omega)) rfl rfl ((hΩ _).1) rfl rfl ?_
  refine G_callSi dX0_wetAgain_20 kX0_wetAgain_X0_halfRoundedUp ⟨rfl, rfl⟩ ⟨Nat.zero_le _, Nat.zero_le _⟩ (c_half) rfl rfl rfl ?_
  refine G_istore_n dX0_wetAgain_23 rfl (L' := [some (.ref lp), some (.int (nI (p))), some (.int (((f (93 + p)) + 1) / 2)), some (.int (((f (113 + p)) + 1) / 2))]) rfl ?_
  refine G_aload_n dX0_wetAgain_24 rfl ?_
  refine G_bipush (v := 97) dX0_wetAgain_25 (by decide) ?_
  refine G_iload_n dX0_wetAgain_27 rfl ?_
  refine G_iaddN (a := 97) (c := p) (s := 97 + p) dX0_wetAgain_28 (by omega) ?_
  refine G_iload_n dX0_wetAgain_29 rfl ?_
  refine G_ineg dX0_wetAgain_30 ?_
  obtain ⟨f1, ef1⟩ : ∃ z : mj_S, z = upd f (93 + p) (f (93 + p) + (-(((f (93 + p)) + 1) / 2))) := ⟨_, rfl⟩
  refine G_callVv dX0_wetAgain_31 kX0_wetAgain_X0_add ⟨rfl, rfl⟩ ⟨Nat.zero_le _, Nat.zero_le _⟩ (c_addH hΩ (j := 97 + p) (j' := 93 + p) (by omega) (by omega) ef1) rfl rfl ((hΩ _).1) rfl rfl ?_
  refine G_aload_n dX0_wetAgain_34 rfl ?_
  refine G_bipush (v := 117) dX0_wetAgain_35 (by decide) ?_
  refine G_iload_n dX0_wetAgain_37 rfl ?_
  refine G_iaddN (a := 117) (c := p) (s := 117 + p) dX0_wetAgain_38 (by omega) ?_
  refine G_iload_n dX0_wetAgain_39 rfl ?_
  refine G_ineg dX0_wetAgain_40 ?_
  obtain ⟨f2, ef2⟩ : ∃ z : mj_S, z = upd f1 (113 + p) (f1 (113 + p) + (-(((f (113 + p)) + 1) / 2))) := ⟨_, rfl⟩
  refine G_callVv dX0_wetAgain_41 kX0_wetAgain_X0_add ⟨rfl, rfl⟩ ⟨Nat.zero_le _, Nat.zero_le _⟩ (c_addH hΩ (j := 117 + p) (j' := 113 + p) (by omega) (by omega) ef2) rfl rfl ((hΩ _).1) rfl rfl ?_
  refine G_aload_n dX0_wetAgain_44 rfl ?_
  refine G_bipush (v := 77) dX0_wetAgain_45 (by decide) ?_
  refine G_iload_n dX0_wetAgain_47 rfl ?_
  refine G_iaddN (a := 77) (c := p) (s := 77 + p) dX0_wetAgain_48 (by omega) ?_
  refine G_iload_n dX0_wetAgain_49 rfl ?_
  refine G_iload_n dX0_wetAgain_50 rfl ?_
  refine G_iadd dX0_wetAgain_51 ?_
  obtain ⟨f3, ef3⟩ : ∃ z : mj_S, z = upd f2 (73 + p) (f2 (73 + p) + ((((f (93 + p)) + 1) / 2) + (((f (113 + p)) + 1) / 2))) := ⟨_, rfl⟩
  refine G_callVv dX0_wetAgain_52 kX0_wetAgain_X0_add ⟨rfl, rfl⟩ ⟨Nat.zero_le _, Nat.zero_le _⟩ (c_addH hΩ (j := 77 + p) (j' := 73 + p) (by omega) (by omega) ef3) rfl rfl ((hΩ _).1) rfl rfl ?_
  exact G_vret dX0_wetAgain_55 ⟨Nat.zero_le _, Nat.zero_le _⟩ (X_w (by congr 2; subst ef3; subst ef2; subst ef1; rw [s_soak]; funext k; simp only [upd]; split <;> (try split) <;> (try split) <;> simp_all <;> grind))
theorem c_dryOut (hΩ : LV lp ap Ω) {q f : mj_S} {p : Nat} (hp : p < 20) : MC l yX0_dryOut wsX0_dryOut rmX0_dryOut false [.ref lp, .int (nI (p))] (Ω (row q f)) none (Ω (row q (s_dry p f))) := by
  refine mj_MC (cc := cX0_dryOut) (nl := 5) (ret := none) (plainFor_of_name (by decide)) rfl (rfl) (Nat.le_of_ble_eq_true rfl) ?_
  show GG l cX0_dryOut MX0_dryOut false (.inl (none, Ω (row q (s_dry p f)))) 0 [some (.ref lp), some (.int (nI (p))), none, none, none] [] (Ω (row q f)) 0 0
  refine G_aload_n dX0_dryOut_0 rfl ?_
  refine G_bipush (v := 97) dX0_dryOut_1 (by decide) ?_
  refine G_iload_n dX0_dryOut_3 rfl ?_
  refine G_iaddN (a := 97) (c := p) (s := 97 + p) dX0_dryOut_4 (by omega) ?_
  refine G_callVi dX0_dryOut_5 kX0_dryOut_X0_at ⟨rfl, rfl⟩ ⟨Nat.zero_le _, Nat.zero_le _⟩ (c_atH hΩ (j := 97 + p) (j' := 93 + p) (by omega) (by omega)) rfl rfl ((hΩ _).1) rfl rfl ?_
  refine G_istore_n dX0_dryOut_8 rfl (L' := [some (.ref lp), some (.int (nI (p))), some (.int (f (93 + p))), none, none]) rfl ?_
  refine G_iload_n dX0_dryOut_9 rfl ?_
  refine G_iconst (v := 3) dX0_dryOut_10 (by decide) ?_
  refine G_idiv dX0_dryOut_11 (by decide) ?_
  refine G_iconst (v := 1) dX0_dryOut_12 (by decide) ?_
  refine G_iadd dX0_dryOut_13 ?_
  refine G_iload_n dX0_dryOut_14 rfl ?_
  refine G_min dX0_dryOut_15 kX0_dryOut_Mmin (by decide) ⟨Nat.zero_le _, Nat.zero_le _⟩ (Nat.le_of_ble_eq_true rfl) ?_
  refine G_istore_n dX0_dryOut_18 rfl (L' := [some (.ref lp), some (.int (nI (p))), some (.int (f (93 + p))), some (.int (mn (((f (93 + p)) / 3) + 1) (f (93 + p)))), none]) rfl ?_
  refine G_aload_n dX0_dryOut_19 rfl ?_
  refine G_bipush (v := 77) dX0_dryOut_20 (by decide) ?_
  refine G_iload_n dX0_dryOut_22 rfl ?_
  refine G_iaddN (a := 77) (c := p) (s := 77 + p) dX0_dryOut_23 (by omega) ?_
  refine G_callVi dX0_dryOut_24 kX0_dryOut_X0_at ⟨rfl, rfl⟩ ⟨Nat.zero_le _, Nat.zero_le _⟩ (c_atH hΩ (j := 77 + p) (j' := 73 + p) (by omega) (by omega)) rfl rfl ((hΩ _).1) rfl rfl ?_
  refine G_callSi dX0_dryOut_27 kX0_dryOut_X0_halfRoundedUp ⟨rfl, rfl⟩ ⟨Nat.zero_le _, Nat.zero_le _⟩ (c_half) rfl rfl rfl ?_
  refine G_istore dX0_dryOut_30 rfl (L' := [some (.ref lp), some (.int (nI (p))), some (.int (f (93 + p))), some (.int (mn (((f (93 + p)) / 3) + 1) (f (93 + p)))), some (.int (((f (73 + p)) + 1) / 2))]) rfl ?_
  refine G_aload_n dX0_dryOut_32 rfl ?_
  refine G_bipush (v := 77) dX0_dryOut_33 (by decide) ?_
  refine G_iload_n dX0_dryOut_35 rfl ?_
  refine G_iaddN (a := 77) (c := p) (s := 77 + p) dX0_dryOut_36 (by omega) ?_
  refine G_iload dX0_dryOut_37 rfl ?_
  refine G_ineg dX0_dryOut_39 ?_
  obtain ⟨f1, ef1⟩ : ∃ z : mj_S, z = upd f (73 + p) (f (73 + p) + (-(((f (73 + p)) + 1) / 2))) := ⟨_, rfl⟩
  refine G_callVv dX0_dryOut_40 kX0_dryOut_X0_add ⟨rfl, rfl⟩ ⟨Nat.zero_le _, Nat.zero_le _⟩ (c_addH hΩ (j := 77 + p) (j' := 73 + p) (by omega) (by omega) ef1) rfl rfl ((hΩ _).1) rfl rfl ?_
  refine G_aload_n dX0_dryOut_43 rfl ?_
  refine G_bipush (v := 97) dX0_dryOut_44 (by decide) ?_
  refine G_iload_n dX0_dryOut_46 rfl ?_
  refine G_iaddN (a := 97) (c := p) (s := 97 + p) dX0_dryOut_47 (by omega) ?_
  refine G_iload dX0_dryOut_48 rfl ?_
  refine G_iload_n dX0_dryOut_50 rfl ?_
  refine G_isub dX0_dryOut_51 ?_
  obtain ⟨f2, ef2⟩ : ∃ z : mj_S, z = upd f1 (93 + p) (f1 (93 + p) + ((((f (73 + p)) + 1) / 2) - (mn (((f (93 + p)) / 3) + 1) (f (93 + p))))) := ⟨_, rfl⟩
  refine G_callVv dX0_dryOut_52 kX0_dryOut_X0_add ⟨rfl, rfl⟩ ⟨Nat.zero_le _, Nat.zero_le _⟩ (c_addH hΩ (j := 97 + p) (j' := 93 + p) (by omega) (by omega) ef2) rfl rfl ((hΩ _).1) rfl rfl ?_
  refine G_aload_n dX0_dryOut_55 rfl ?_
  refine G_bipush (v := 117) dX0_dryOut_56 (by decide) ?_
  refine G_iload_n dX0_dryOut_58 rfl ?_
  refine G_iaddN (a := 117) (c := p) (s := 117 + p) dX0_dryOut_59 (by omega) ?_
  refine G_iload_n dX0_dryOut_60 rfl ?_
  obtain ⟨f3, ef3⟩ : ∃ z : mj_S, z = upd f2 (113 + p) (f2 (113 + p) + (mn (((f (93 + p)) / 3) + 1) (f (93 + p)))) := ⟨_, rfl⟩
  refine G_callVv dX0_dryOut_61 kX0_dryOut_X0_add ⟨rfl, rfl⟩ ⟨Nat.zero_le _, Nat.zero_le _⟩ (c_addH hΩ (j := 117 + p) (j' := 113 + p) (by omega) (by omega) ef3) rfl rfl ((hΩ _).1) rfl rfl ?_
  exact G_vret dX0_dryOut_64 ⟨Nat.zero_le _, Nat.zero_le _⟩ (X_w (by congr 2; subst ef3; subst ef2; subst ef1; rw [s_dry]; funext k; simp only [upd]; split <;> (try split) <;> (try split) <;> simp_all <;> grind))
theorem lp_burn (hΩ : LV lp ap Ω) {q res : mj_S} : ∀ (d c : Nat) (f : mj_S) (y1 y2 : Option Value), c + d = 5 → res = itr s_burn1 d c f → GG l cX0_burn MX0_burn false (.inl (none, Ω (row q res))) 2 [some (.ref lp), some (.int (nI (c))), y1, y2] [] (Ω (row q f)) 0 0
  | 0, c, f, y1, y2, hc, hr => by
    refine G_iload_n dX0_burn_2 rfl ?_
    refine G_iconst (v := 5) dX0_burn_3 (by decide) ?_
    refine G_icmp_geN (a := c) (c := 5) 62 dX0_burn_4 (by decide) (by omega) (fun c4 => ?_) (fun c4 => ?_)
    · exact G_vret dX0_burn_62 ⟨Nat.zero_le _, Nat.zero_le _⟩ (by rw [hr, itr_0])
    · exact (show False by omega).elim
  | d + 1, c, f, y1, y2, hc, hr => by
    refine G_iload_n dX0_burn_2 rfl ?_
    refine G_iconst (v := 5) dX0_burn_3 (by decide) ?_
    refine G_icmp_geN (a := c) (c := 5) 62 dX0_burn_4 (by decide) (by omega) (fun c4 => ?_) (fun c4 => ?_)
    · exact (show False by omega).elim
    · refine G_aload_n dX0_burn_7 rfl ?_
      refine G_iconst (v := 4) dX0_burn_8 (by decide) ?_
      refine G_callVi dX0_burn_9 kX0_burn_X0_at ⟨rfl, rfl⟩ ⟨Nat.zero_le _, Nat.zero_le _⟩ (c_atL hΩ (j := 4) (by omega)) rfl rfl ((hΩ _).1) rfl rfl ?_
      refine G_istore_n dX0_burn_12 rfl (L' := [some (.ref lp), some (.int (nI (c))), some (.int (f (4))), y2]) rfl ?_
      refine G_iload_n dX0_burn_13 rfl ?_
      refine G_aload_n dX0_burn_14 rfl ?_
      refine G_bipush (v := 15) dX0_burn_15 (by decide) ?_
      refine G_iload_n dX0_burn_17 rfl ?_
      refine G_iaddN (a := 15) (c := c) (s := 15 + c) dX0_burn_18 (by omega) ?_
      refine G_callVi dX0_burn_19 kX0_burn_X0_at ⟨rfl, rfl⟩ ⟨Nat.zero_le _, Nat.zero_le _⟩ (c_atL hΩ (j := 15 + c) (by omega)) rfl rfl ((hΩ _).1) rfl rfl ?_
      refine G_min dX0_burn_22 kX0_burn_Mmin (by decide) ⟨Nat.zero_le _, Nat.zero_le _⟩ (Nat.le_of_ble_eq_true rfl) ?_
      refine G_istore_n dX0_burn_25 rfl (L' := [some (.ref lp), some (.int (nI (c))), some (.int (f (4))), some (.int (mn (f (4)) (f (15 + c))))]) rfl ?_
      refine G_aload_n dX0_burn_26 rfl ?_
      refine G_bipush (v := 15) dX0_burn_27 (by decide) ?_
      refine G_iload_n dX0_burn_29 rfl ?_
      refine G_iaddN (a := 15) (c := c) (s := 15 + c) dX0_burn_30 (by omega) ?_
      refine G_iload_n dX0_burn_31 rfl ?_
      refine G_ineg dX0_burn_32 ?_
      obtain ⟨f1, ef1⟩ : ∃ z : mj_S, z = upd f (15 + c) (f (15 + c) + (-(mn (f (4)) (f (15 + c))))) := ⟨_, rfl⟩
      refine G_callVv dX0_burn_33 kX0_burn_X0_add ⟨rfl, rfl⟩ ⟨Nat.zero_le _, Nat.zero_le _⟩ (c_addL hΩ (j := 15 + c) (by omega) ef1) rfl rfl ((hΩ _).1) rfl rfl ?_
      refine G_aload_n dX0_burn_36 rfl ?_
      refine G_bipush (v := 35) dX0_burn_37 (by decide) ?_
      refine G_iload_n dX0_burn_39 rfl ?_
      refine G_iaddN (a := 35) (c := c) (s := 35 + c) dX0_burn_40 (by omega) ?_
      refine G_iload_n dX0_burn_41 rfl ?_
      obtain ⟨f2, ef2⟩ : ∃ z : mj_S, z = upd f1 (35 + c) (f1 (35 + c) + (mn (f (4)) (f (15 + c)))) := ⟨_, rfl⟩
      refine G_callVv dX0_burn_42 kX0_burn_X0_add ⟨rfl, rfl⟩ ⟨Nat.zero_le _, Nat.zero_le _⟩ (c_addL hΩ (j := 35 + c) (by omega) ef2) rfl rfl ((hΩ _).1) rfl rfl ?_
      refine G_aload_n dX0_burn_45 rfl ?_
      refine G_bipush (v := 40) dX0_burn_46 (by decide) ?_
      refine G_iload_n dX0_burn_48 rfl ?_
      refine G_iaddN (a := 40) (c := c) (s := 40 + c) dX0_burn_49 (by omega) ?_
      refine G_iload_n dX0_burn_50 rfl ?_
      refine G_iload_n dX0_burn_51 rfl ?_
      refine G_isub dX0_burn_52 ?_
      obtain ⟨f3, ef3⟩ : ∃ z : mj_S, z = upd f2 (40 + c) (f2 (40 + c) + ((f (4)) - (mn (f (4)) (f (15 + c))))) := ⟨_, rfl⟩
      refine G_callVv dX0_burn_53 kX0_burn_X0_add ⟨rfl, rfl⟩ ⟨Nat.zero_le _, Nat.zero_le _⟩ (c_addL hΩ (j := 40 + c) (by omega) ef3) rfl rfl ((hΩ _).1) rfl rfl ?_
      refine G_iincN (a := c) (s := c + 1) dX0_burn_56 rfl (by omega) (L' := [some (.ref lp), some (.int (nI (c + 1))), some (.int (f (4))), some (.int (mn (f (4)) (f (15 + c))))]) rfl ?_
      refine G_goto 2 dX0_burn_59 (by decide) ?_
      exact lp_burn hΩ d (c + 1) f3 _ _ (by omega) (by rw [hr, itr_s]; congr 1; subst ef3; subst ef2; subst ef1; simp only [s_burn1, Int32.sub_eq_add_neg])
theorem c_burn (hΩ : LV lp ap Ω) {q f : mj_S} : MC l yX0_burn wsX0_burn rmX0_burn false [.ref lp] (Ω (row q f)) none (Ω (row q (s_burn f))) := by
  refine mj_MC (cc := cX0_burn) (nl := 4) (ret := none) (plainFor_of_name (by decide)) rfl (rfl) (Nat.le_of_ble_eq_true rfl) ?_
  show GG l cX0_burn MX0_burn false (.inl (none, Ω (row q (s_burn f)))) 0 [some (.ref lp), none, none, none] [] (Ω (row q f)) 0 0
  refine G_iconst (v := 0) dX0_burn_0 (by decide) ?_
  refine G_istore_n dX0_burn_1 rfl (L' := [some (.ref lp), some (.int 0), none, none]) rfl ?_
  exact lp_burn hΩ 5 0 _ _ _ rfl rfl
end LB
end
section
/-! WHAT STAYS TRUE of the state: the settings and the works are in their ranges; no turf is lost, none is less than none -/
def oA (f : mj_S) (D : Nat) : Prop := f 0 = nI D ∧ (f 1 = 0 ∨ f 1 = 1) ∧ (∃ s, s ≤ 9 ∧ f 2 = nI s) ∧ (∃ s, s ≤ 50 ∧ f 3 = nI s) ∧ (∃ s, s ≤ 30 ∧ f 4 = nI s) ∧ (∀ h, h < 5 → f (5 + h) = 0 ∨ f (5 + h) = 1) ∧ (∀ b, b < 4 → ∃ c, c ≤ 90 ∧ f (49 + b) = nI c) ∧ (∀ c, c < 6 → ∃ s, s ≤ 40 ∧ f (133 + c) = nI s) ∧ (∀ c, c < 6 → (f (139 + c) = -1 ∧ f (145 + c) = -1) ∨ ∃ h b, h < 5 ∧ b < 4 ∧ f (139 + c) = nI h ∧ f (145 + c) = nI b)
def vt (f : mj_S) : Prop := ∀ p, p < 20 → ∃ x y z u : Nat, f (73 + p) = nI x ∧ f (93 + p) = nI y ∧ f (113 + p) = nI z ∧ f (45 + p % 4) = nI u ∧ x + y + z + u ≤ 2000
def inA (k : Nat) : Prop := k < 10 ∨ (49 ≤ k ∧ k < 53) ∨ (133 ≤ k ∧ k < 151)
def sA (f g : mj_S) : Prop := ∀ k, inA k → g k = f k
def inT (k : Nat) : Prop := (45 ≤ k ∧ k < 49) ∨ (73 ≤ k ∧ k < 133)
def sT (f g : mj_S) : Prop := ∀ k, inT k → g k = f k
theorem sA_rf (f : mj_S) : sA f f := fun _ _ => rfl
theorem sA.tr {f g h : mj_S} (a : sA f g) (b : sA g h) : sA f h := fun k hk => (b k hk).trans (a k hk)
theorem sA_upd {f g : mj_S} {j : Nat} {v : Int32} (h : sA f g) (hj : ¬ inA j) : sA f (upd g j v) := fun k hk => by
  have hne : k ≠ j := fun e => hj (by rw [← e]; exact hk)
  rw [upd_n hne]; exact h k hk
theorem sT_rf (f : mj_S) : sT f f := fun _ _ => rfl
theorem sT.tr {f g h : mj_S} (a : sT f g) (b : sT g h) : sT f h := fun k hk => (b k hk).trans (a k hk)
theorem sT_upd {f g : mj_S} {j : Nat} {v : Int32} (h : sT f g) (hj : ¬ inT j) : sT f (upd g j v) := fun k hk => by
  have hne : k ≠ j := fun e => hj (by rw [← e]; exact hk)
  rw [upd_n hne]; exact h k hk
theorem oA_same {f g : mj_S} {D : Nat} (h : sA f g) (ho : oA f D) : oA g D := by
  obtain ⟨a0, a1, a2, a3, a4, a5, a6, a7, a8⟩ := ho
  have e : ∀ k, inA k → g k = f k := h
  refine ⟨?_, ?_, ?_, ?_, ?_, fun i hi => ?_, fun i hi => ?_, fun i hi => ?_, fun i hi => ?_⟩
  · rw [e 0 (Or.inl (by omega))]; exact a0
  · rw [e 1 (Or.inl (by omega))]; exact a1
  · rw [e 2 (Or.inl (by omega))]; exact a2
  · rw [e 3 (Or.inl (by omega))]; exact a3
  · rw [e 4 (Or.inl (by omega))]; exact a4
  · rw [e (5 + i) (Or.inl (by omega))]; exact a5 i hi
  · rw [e (49 + i) (Or.inr (Or.inl (by omega)))]; exact a6 i hi
  · rw [e (133 + i) (Or.inr (Or.inr (by omega)))]; exact a7 i hi
  · rw [e (139 + i) (Or.inr (Or.inr (by omega))), e (145 + i) (Or.inr (Or.inr (by omega)))]; exact a8 i hi
theorem vt_same {f g : mj_S} (h : sT f g) (hv : vt f) : vt g := fun p hp => by
  rw [h (73 + p) (Or.inr (by omega)), h (93 + p) (Or.inr (by omega)), h (113 + p) (Or.inr (by omega)), h (45 + p % 4) (Or.inl (by omega))]
  exact hv p hp
theorem n_half {z : Nat} (h : z < 2147483647) : (nI z + 1) / 2 = nI ((z + 1) / 2) := by
  rw [nI_1, show (2 : Int32) = nI 2 from rfl, pk_div (by omega) (by omega) (by omega)]
theorem n_third {z : Nat} (h : z < 2147483647) : nI z / 3 + 1 = nI (z / 3 + 1) := by
  rw [show (3 : Int32) = nI 3 from rfl, pk_div (by omega) (by omega) (by omega), nI_1]
theorem n_mn {a b : Nat} (ha : a < 2147483648) (hb : b < 2147483648) : mn (nI a) (nI b) = nI (if b < a then b else a) := by
  unfold mn
  by_cases h : b < a
  · rw [if_pos ((nI_ltI hb ha).mpr h), if_pos h]
  · rw [if_neg (fun q => h ((nI_ltI hb ha).mp q)), if_neg h]
theorem vt_step {f g : mj_S} {p : Nat} (hp : p < 20) (hv : vt f) (h : ∀ k, k ≠ 73 + p → k ≠ 93 + p → k ≠ 113 + p → g k = f k) (hx : ∀ x y z : Nat, f (73 + p) = nI x → f (93 + p) = nI y → f (113 + p) = nI z → x + y + z ≤ 2000 → ∃ x' y' z' : Nat, g (73 + p) = nI x' ∧ g (93 + p) = nI y' ∧ g (113 + p) = nI z' ∧ x' + y' + z' ≤ x + y + z) : vt g := by
  intro p' hp'
  obtain ⟨x, y, z, u, ex, ey, ez, eu, hs⟩ := hv p' hp'
  by_cases e : p' = p
  · subst e
    obtain ⟨x', y', z', gx, gy, gz, hs'⟩ := hx x y z ex ey ez (by omega)
    exact ⟨x', y', z', u, gx, gy, gz, by rw [h _ (by omega) (by omega) (by omega)]; exact eu, by omega⟩
  · refine ⟨x, y, z, u, ?_, ?_, ?_, ?_, hs⟩
    · rw [h _ (by omega) (by omega) (by omega)]; exact ex
    · rw [h _ (by omega) (by omega) (by omega)]; exact ey
    · rw [h _ (by omega) (by omega) (by omega)]; exact ez
    · rw [h _ (by omega) (by omega) (by omega)]; exact eu
theorem sA_soak {f : mj_S} {p : Nat} (hp : p < 20) : sA f (s_soak p f) := sA_upd (sA_upd (sA_upd (sA_rf f) (by unfold inA; omega)) (by unfold inA; omega)) (by unfold inA; omega)
theorem sA_dry {f : mj_S} {p : Nat} (hp : p < 20) : sA f (s_dry p f) := sA_upd (sA_upd (sA_upd (sA_rf f) (by unfold inA; omega)) (by unfold inA; omega)) (by unfold inA; omega)
theorem vt_soak {f : mj_S} {p : Nat} (hp : p < 20) (hv : vt f) : vt (s_soak p f) := by
  refine vt_step hp hv (fun k h1 h2 h3 => by rw [s_soak, upd_n h1, upd_n h2, upd_n h3]) ?_
  intro x y z ex ey ez hs
  refine ⟨x + ((z + 1) / 2 + (y + 1) / 2), y - (y + 1) / 2, z - (z + 1) / 2, ?_, ?_, ?_, by omega⟩
  · rw [s_soak, upd_s, ex, ey, ez, n_half (by omega), n_half (by omega), nI_add, nI_add]
  · rw [s_soak, upd_n (by omega), upd_s, ey, n_half (by omega), pk_sub (by omega)]
  · rw [s_soak, upd_n (by omega), upd_n (by omega), upd_s, ez, n_half (by omega), pk_sub (by omega)]
theorem vt_dry {f : mj_S} {p : Nat} (hp : p < 20) (hv : vt f) : vt (s_dry p f) := by
  refine vt_step hp hv (fun k h1 h2 h3 => by rw [s_dry, upd_n h3, upd_n h2, upd_n h1]) ?_
  intro x y z ex ey ez hs
  have e1 : mn (nI y / 3 + 1) (nI y) = nI (if y < y / 3 + 1 then y else y / 3 + 1) := by rw [n_third (by omega), n_mn (by omega) (by omega)]
  have hle : (if y < y / 3 + 1 then y else y / 3 + 1) ≤ y := by split <;> omega
  generalize (if y < y / 3 + 1 then y else y / 3 + 1) = m at e1 hle
  refine ⟨x - (x + 1) / 2, y - m + (x + 1) / 2, z + m, ?_, ?_, ?_, by omega⟩
  · rw [s_dry, upd_n (by omega), upd_n (by omega), upd_s, ex, n_half (by omega), pk_sub (by omega)]
  · rw [s_dry, upd_n (by omega), upd_s, ex, ey, e1, n_half (by omega), pk_sub (by omega), nI_add]
  · rw [s_dry, upd_s, ey, ez, e1, nI_add]
theorem sA_wth {f : mj_S} {r : Nat} : sA f (s_wth r f) := by
  unfold s_wth
  have h1 : ∀ d c (g : mj_S), c + d ≤ 20 → sA f g → sA f (itr s_soak d c g) := by
    intro d
    induction d with
    | zero => intro c g _ h; exact h
    | succ d ih => intro c g hc h; exact ih (c + 1) _ (by omega) (h.tr (sA_soak (by omega)))
  have h2 : ∀ d c (g : mj_S), c + d ≤ 20 → sA f g → sA f (itr s_dry d c g) := by
    intro d
    induction d with
    | zero => intro c g _ h; exact h
    | succ d ih => intro c g hc h; exact ih (c + 1) _ (by omega) (h.tr (sA_dry (by omega)))
  split
  · exact h1 20 0 f (by omega) (sA_rf f)
  · split
    · exact h2 20 0 f (by omega) (sA_rf f)
    · exact sA_rf f
theorem vt_wth {f : mj_S} {r : Nat} (hv : vt f) : vt (s_wth r f) := by
  unfold s_wth
  have h1 : ∀ d c (g : mj_S), c + d ≤ 20 → vt g → vt (itr s_soak d c g) := by
    intro d
    induction d with
    | zero => intro c g _ h; exact h
    | succ d ih => intro c g hc h; exact ih (c + 1) _ (by omega) (vt_soak (by omega) h)
  have h2 : ∀ d c (g : mj_S), c + d ≤ 20 → vt g → vt (itr s_dry d c g) := by
    intro d
    induction d with
    | zero => intro c g _ h; exact h
    | succ d ih => intro c g hc h; exact ih (c + 1) _ (by omega) (vt_dry (by omega) h)
  split
  · exact h1 20 0 f (by omega) hv
  · split
    · exact h2 20 0 f (by omega) hv
    · exact hv
/-- where a plot is empty nothing dries and nothing is wetted -/
theorem tv_empty {f : mj_S} {p : Nat} (hp : p < 20) (hv : vt f) (h : s_tv f p = 0) : f (73 + p) = 0 ∧ f (93 + p) = 0 ∧ f (113 + p) = 0 := by
  obtain ⟨x, y, z, u, ex, ey, ez, eu, hs⟩ := hv p hp
  rw [s_tv, ex, ey, ez, nI_add, nI_add] at h
  have h0 : x + y + z = 0 := (nI_eq (b := 0) (by omega) (by omega)).mp h
  rw [ex, ey, ez, show x = 0 by omega, show y = 0 by omega, show z = 0 by omega]
  exact ⟨rfl, rfl, rfl⟩
theorem upd_same {f : mj_S} {j : Nat} {v : Int32} (h : v = f j) : upd f j v = f := by rw [h]; exact upd_id f j
theorem soak_empty {f : mj_S} {p : Nat} (hp : p < 20) (hv : vt f) (h : s_tv f p = 0) : s_soak p f = f := by
  obtain ⟨h1, h2, h3⟩ := tv_empty hp hv h
  rw [s_soak, h1, h2, h3, show (0 : Int32) - (0 + 1) / 2 = 0 from rfl, show (0 : Int32) + ((0 + 1) / 2 + (0 + 1) / 2) = 0 from rfl, upd_same (f := f) h3.symm, upd_same h2.symm, upd_same h1.symm]
theorem dry_empty {f : mj_S} {p : Nat} (hp : p < 20) (hv : vt f) (h : s_tv f p = 0) : s_dry p f = f := by
  obtain ⟨h1, h2, h3⟩ := tv_empty hp hv h
  rw [s_dry, h1, h2, h3, show mn ((0 : Int32) / 3 + 1) 0 = 0 from rfl, show (0 : Int32) - (0 + 1) / 2 = 0 from rfl, show (0 : Int32) - 0 + (0 + 1) / 2 = 0 from rfl, show (0 : Int32) + 0 = 0 from rfl, upd_same (f := f) h1.symm, upd_same h2.symm, upd_same h3.symm]
theorem sA_cut {f : mj_S} {D c : Nat} (ho : oA f D) (hc : c < 6) : sA f (s_cut c f) := by
  unfold s_cut
  split
  · exact sA_rf f
  · rename_i hne
    obtain ⟨-, -, -, -, -, -, -, -, a8⟩ := ho
    rcases a8 c hc with ⟨e1, -⟩ | ⟨h, b, hh, hb, e1, e2⟩
    · exact absurd e1 hne
    · simp only [e1, e2, nI_clamp (show h < 2 ^ 31 by omega), nI_clamp (show b < 2 ^ 31 by omega)]
      exact sA_upd (sA_upd (sA_upd (sA_upd (sA_rf f) (by unfold inA; omega)) (by unfold inA; omega)) (by unfold inA; omega)) (by unfold inA; omega)
theorem vt_cut {f : mj_S} {D c : Nat} (ho : oA f D) (hc : c < 6) (hv : vt f) : vt (s_cut c f) := by
  unfold s_cut
  split
  · exact hv
  · rename_i hne
    obtain ⟨-, -, -, -, -, -, -, a7, a8⟩ := ho
    rcases a8 c hc with ⟨e1, -⟩ | ⟨h, b, hh, hb, e1, e2⟩
    · exact absurd e1 hne
    · obtain ⟨st, hst, es⟩ := a7 c hc
      obtain ⟨x0, y0, z0, u0, ex0, ey0, ez0, eu0, hs0⟩ := hv (b + 4 * h) (by omega)
      rw [show (b + 4 * h) % 4 = b by omega] at eu0
      simp only [e1, e2, nI_clamp (show h < 2 ^ 31 by omega), nI_clamp (show b < 2 ^ 31 by omega), es, eu0, n_mn (show st < 2147483648 by omega) (show u0 < 2147483648 by omega)]
      have hle : (if u0 < st then u0 else st) ≤ u0 := by split <;> omega
      generalize (if u0 < st then u0 else st) = m at hle
      intro p hp
      obtain ⟨x, y, z, u, ex, ey, ez, eu, hs⟩ := hv p hp
      by_cases hb2 : p % 4 = b
      · by_cases hpp : p = b + 4 * h
        · subst hpp
          rw [ex0] at ex; rw [ey0] at ey; rw [ez0] at ez
          refine ⟨x0 + m, y0, z0, u0 - m, ?_, ?_, ?_, ?_, by omega⟩
          · rw [upd_n (by omega), upd_n (by omega), show 73 + (b + 4 * h) = 73 + b + 4 * h by omega, upd_s, upd_n (by omega), show 73 + b + 4 * h = 73 + (b + 4 * h) by omega, ex0, nI_add]
          · rw [upd_n (by omega), upd_n (by omega), upd_n (by omega), upd_n (by omega), ey0]
          · rw [upd_n (by omega), upd_n (by omega), upd_n (by omega), upd_n (by omega), ez0]
          · rw [upd_n (by omega), upd_n (by omega), upd_n (by omega), hb2, upd_s, pk_sub hle]
        · rw [hb2] at eu
          rw [eu0] at eu
          have huu : u = u0 := ((nI_eq (by omega) (by omega)).mp eu).symm
          refine ⟨x, y, z, u0 - m, ?_, ?_, ?_, ?_, by omega⟩
          · rw [upd_n (by omega), upd_n (by omega), upd_n (by omega), upd_n (by omega), ex]
          · rw [upd_n (by omega), upd_n (by omega), upd_n (by omega), upd_n (by omega), ey]
          · rw [upd_n (by omega), upd_n (by omega), upd_n (by omega), upd_n (by omega), ez]
          · rw [upd_n (by omega), upd_n (by omega), upd_n (by omega), hb2, upd_s, pk_sub hle]
      · refine ⟨x, y, z, u, ?_, ?_, ?_, ?_, hs⟩
        · rw [upd_n (by omega), upd_n (by omega), upd_n (by omega), upd_n (by omega), ex]
        · rw [upd_n (by omega), upd_n (by omega), upd_n (by omega), upd_n (by omega), ey]
        · rw [upd_n (by omega), upd_n (by omega), upd_n (by omega), upd_n (by omega), ez]
        · rw [upd_n (by omega), upd_n (by omega), upd_n (by omega), upd_n (by omega), eu]
theorem cuts_ok {f : mj_S} {D : Nat} : ∀ (d c : Nat) (g : mj_S), c + d ≤ 6 → sA f g → oA f D → vt g → sA f (itr s_cut d c g) ∧ vt (itr s_cut d c g)
  | 0, c, g, hc, h, ho, hv => ⟨h, hv⟩
  | d + 1, c, g, hc, h, ho, hv => cuts_ok d (c + 1) _ (by omega) (h.tr (sA_cut (oA_same h ho) (by omega))) ho (vt_cut (oA_same h ho) (by omega) hv)
/-- the widow's hearth that is named is one -/
theorem poor_in (f : mj_S) : s_poor f = -1 ∨ ∃ v, v < 5 ∧ s_poor f = nI v := by
  unfold s_poor
  have h : ∀ d c (a : Int32), c + d ≤ 5 → (a = -1 ∨ ∃ v, v < 5 ∧ a = nI v) → (itr (fun h a => if f (5 + h) = 1 ∧ (a = -1 ∨ f (15 + h) < f (15 + a.toNatClampNeg)) then nI h else a) d c a = -1 ∨ ∃ v, v < 5 ∧ itr (fun h a => if f (5 + h) = 1 ∧ (a = -1 ∨ f (15 + h) < f (15 + a.toNatClampNeg)) then nI h else a) d c a = nI v) := by
    intro d
    induction d with
    | zero => intro c a _ h; exact h
    | succ d ih =>
      intro c a hc h
      refine ih (c + 1) _ (by omega) ?_
      dsimp only
      split
      · exact Or.inr ⟨c, by omega, rfl⟩
      · exact h
  exact h 5 0 (-1) (by omega) (Or.inl rfl)
theorem sA_bring {f : mj_S} {h b : Nat} {m : Int32} (hh : h < 5) (hb : b < 4) : sA f (s_bring f h b m) := by
  unfold s_bring
  have h2 : sA f (upd (upd f (113 + b + 4 * h) (f (113 + b + 4 * h) - m)) (15 + h) (upd f (113 + b + 4 * h) (f (113 + b + 4 * h) - m) (15 + h) + m)) := sA_upd (sA_upd (sA_rf f) (by unfold inA; omega)) (by unfold inA; omega)
  dsimp only
  generalize upd (upd f (113 + b + 4 * h) (f (113 + b + 4 * h) - m)) (15 + h) (upd f (113 + b + 4 * h) (f (113 + b + 4 * h) - m) (15 + h) + m) = f2 at h2
  split
  · exact h2
  · split
    · exact h2
    · rename_i hne
      rcases poor_in f2 with e | ⟨v, hv, e⟩
      · exact absurd e hne
      · rw [e, nI_clamp (by omega)]
        exact sA_upd (sA_upd (sA_upd (sA_upd h2 (by unfold inA; omega)) (by unfold inA; omega)) (by unfold inA; omega)) (by unfold inA; omega)
theorem vt_bring {f : mj_S} {h b : Nat} {m z : Nat} (hh : h < 5) (hb : b < 4) (hv : vt f) (hz : f (113 + b + 4 * h) = nI z) (hz2 : z ≤ 2000) (hm : m ≤ z) : vt (s_bring f h b (nI m)) := by
  have h1 : vt (upd f (113 + b + 4 * h) (f (113 + b + 4 * h) - nI m)) := by
    refine vt_step (p := b + 4 * h) (by omega) hv (fun k _ _ h3 => upd_n (by omega)) ?_
    intro x y z' ex ey ez hs
    rw [show 113 + (b + 4 * h) = 113 + b + 4 * h by omega] at ez ⊢
    rw [hz] at ez
    have hzz : z = z' := (nI_eq (by omega) (by omega)).mp ez
    exact ⟨x, y, z - m, by rw [upd_n (by omega)]; exact ex, by rw [upd_n (by omega)]; exact ey, by rw [upd_s, hz, pk_sub hm], by omega⟩
  have h2 : vt (upd (upd f (113 + b + 4 * h) (f (113 + b + 4 * h) - nI m)) (15 + h) (upd f (113 + b + 4 * h) (f (113 + b + 4 * h) - nI m) (15 + h) + nI m)) := vt_same (sT_upd (sT_rf _) (by unfold inT; omega)) h1
  unfold s_bring
  dsimp only
  generalize upd (upd f (113 + b + 4 * h) (f (113 + b + 4 * h) - nI m)) (15 + h) (upd f (113 + b + 4 * h) (f (113 + b + 4 * h) - nI m) (15 + h) + nI m) = f2 at h2
  split
  · exact h2
  · split
    · exact h2
    · rename_i hne
      rcases poor_in f2 with e | ⟨v, hv, e⟩
      · exact absurd e hne
      · rw [e, nI_clamp (by omega)]
        exact vt_same (sT_upd (sT_upd (sT_upd (sT_upd (sT_rf _) (by unfold inT; omega)) (by unfold inT; omega)) (by unfold inT; omega)) (by unfold inT; omega)) h2
/-- the carts of a bank: at most what the track carries, never less than none -/
theorem cart_ok {f : mj_S} {D b : Nat} (hb : b < 4) : ∀ (d c : Nat) (g : mj_S) (l : Nat), sA f g → vt g → l < 2147483648 → ∃ l', l' ≤ l ∧ sA f (itr (s_cart1 D b) d c (g, nI l)).1 ∧ vt (itr (s_cart1 D b) d c (g, nI l)).1 ∧ (itr (s_cart1 D b) d c (g, nI l)).2 = nI l'
  | 0, c, g, l, h, hv, hl => ⟨l, Nat.le_refl _, h, hv, rfl⟩
  | d + 1, c, g, l, h, hv, hl => by
    have hh : (D + c) % 5 < 5 := Nat.mod_lt _ (by omega)
    obtain ⟨x, y, z, u, ex, ey, ez, eu, hs⟩ := hv (b + 4 * ((D + c) % 5)) (by omega)
    rw [show 113 + (b + 4 * ((D + c) % 5)) = 113 + b + 4 * ((D + c) % 5) by omega] at ez
    have e1 : mn (g (113 + b + 4 * ((D + c) % 5))) (nI l) = nI (if l < z then l else z) := by rw [ez, n_mn (by omega) hl]
    have hle : (if l < z then l else z) ≤ z ∧ (if l < z then l else z) ≤ l := by split <;> omega
    generalize (if l < z then l else z) = m at e1 hle
    have e2 : itr (s_cart1 D b) (d + 1) c (g, nI l) = itr (s_cart1 D b) d (c + 1) (s_bring g ((D + c) % 5) b (nI m), nI (l - m)) := by
      rw [itr_s, s_cart1]
      dsimp only
      rw [e1, pk_sub hle.2]
    rw [e2]
    obtain ⟨l', h1, h2, h3, h4⟩ := cart_ok (f := f) (D := D) hb d (c + 1) (s_bring g ((D + c) % 5) b (nI m)) (l - m) (h.tr (sA_bring hh hb)) (vt_bring hh hb hv ez (by omega) hle.1) (by omega)
    exact ⟨l', by omega, h2, h3, h4⟩
theorem carts_ok {f : mj_S} {D E : Nat} (ho : oA f D) : ∀ (d c : Nat) (g : mj_S) (n : Nat), c + d ≤ 4 → sA f g → vt g → n + 90 * d < 2147483648 → ∃ n', n' ≤ n + 90 * d ∧ sA f (itr (s_carts1 E) d c (g, nI n)).1 ∧ vt (itr (s_carts1 E) d c (g, nI n)).1 ∧ (itr (s_carts1 E) d c (g, nI n)).2 = nI n'
  | 0, c, g, n, hc, h, hv, hn => ⟨n, by omega, h, hv, rfl⟩
  | d + 1, c, g, n, hc, h, hv, hn => by
    obtain ⟨k, hk, ek⟩ := (oA_same h ho).2.2.2.2.2.2.1 c (by omega)
    obtain ⟨l', h1, h2, h3, h4⟩ := cart_ok (f := f) (D := E) (b := c) (by omega) 5 0 g k h hv (by omega)
    have e2 : itr (s_carts1 E) (d + 1) c (g, nI n) = itr (s_carts1 E) d (c + 1) ((s_cart E c g).1, nI (n + (k - l'))) := by
      rw [itr_s, s_carts1]
      dsimp only
      rw [show (s_cart E c g).2 = nI l' by rw [s_cart, ek]; exact h4, ek, pk_sub h1, nI_add]
    rw [e2]
    have e3 : (s_cart E c g).1 = (itr (s_cart1 E c) 5 0 (g, nI k)).1 := by rw [s_cart, ek]
    rw [← e3] at h2 h3
    obtain ⟨n', q1, q2, q3, q4⟩ := carts_ok (E := E) ho d (c + 1) (s_cart E c g).1 (n + (k - l')) (by omega) h2 h3 (by omega)
    exact ⟨n', by omega, q2, q3, q4⟩
theorem burn_ok {f : mj_S} : ∀ (d c : Nat) (g : mj_S), c + d ≤ 5 → sA f g → vt g → sA f (itr s_burn1 d c g) ∧ vt (itr s_burn1 d c g)
  | 0, c, g, hc, h, hv => ⟨h, hv⟩
  | d + 1, c, g, hc, h, hv => burn_ok d (c + 1) _ (by omega) (sA_upd (sA_upd (sA_upd h (by unfold inA; omega)) (by unfold inA; omega)) (by unfold inA; omega)) (vt_same (sT_upd (sT_upd (sT_upd (sT_rf g) (by unfold inT; omega)) (by unfold inT; omega)) (by unfold inT; omega)) hv)
theorem oA_day {f : mj_S} {D : Nat} (ho : oA f D) : oA (upd f 0 (f 0 + 1)) (D + 1) := by
  obtain ⟨a0, a1, a2, a3, a4, a5, a6, a7, a8⟩ := ho
  refine ⟨?_, ?_, ?_, ?_, ?_, fun i hi => ?_, fun i hi => ?_, fun i hi => ?_, fun i hi => ?_⟩
  · rw [upd_s, a0, nI_1]
  · rw [upd_n (by omega)]; exact a1
  · rw [upd_n (by omega)]; exact a2
  · rw [upd_n (by omega)]; exact a3
  · rw [upd_n (by omega)]; exact a4
  · rw [upd_n (by omega)]; exact a5 i hi
  · rw [upd_n (by omega)]; exact a6 i hi
  · rw [upd_n (by omega)]; exact a7 i hi
  · rw [upd_n (by omega), upd_n (by omega)]; exact a8 i hi
/-- a day keeps it all; what comes home is between none and 360 -/
theorem day_ok {f : mj_S} {D : Nat} (ho : oA f D) (hv : vt f) : oA (s_day f).1 (D + 1) ∧ vt (s_day f).1 ∧ ∃ n, n ≤ 360 ∧ (s_day f).2 = nI n := by
  have ho1 := oA_day ho
  have hv1 : vt (upd f 0 (f 0 + 1)) := vt_same (sT_upd (sT_rf f) (by unfold inT; omega)) hv
  unfold s_day
  dsimp only
  generalize upd f 0 (f 0 + 1) = f0 at ho1 hv1
  by_cases hs : f 1 = 1
  · simp only [if_pos hs]
    obtain ⟨h1, h2⟩ := burn_ok (f := s_wth 0 f0) 5 0 (s_wth 0 f0) (by omega) (sA_rf _) (vt_wth hv1)
    exact ⟨oA_same (sA_wth.tr h1) ho1, h2, 0, by omega, rfl⟩
  · simp only [if_neg hs]
    obtain ⟨h1, h2⟩ := cuts_ok (f := f0) 6 0 f0 (by omega) (sA_rf _) ho1 hv1
    have h3 : sA f0 (s_wth (s_rain f0 (f0 0).toNatClampNeg) (s_cuts f0)) := sA.tr h1 sA_wth
    have h4 : vt (s_wth (s_rain f0 (f0 0).toNatClampNeg) (s_cuts f0)) := vt_wth h2
    generalize s_wth (s_rain f0 (f0 0).toNatClampNeg) (s_cuts f0) = g at h3 h4
    obtain ⟨n', q1, q2, q3, q4⟩ := carts_ok (E := (f0 0).toNatClampNeg) (oA_same h3 ho1) 4 0 g 0 (by omega) (sA_rf _) h4 (by omega)
    exact ⟨oA_same (h3.tr q2) ho1, q3, n', by omega, q4⟩
theorem days_ok {f : mj_S} {D : Nat} (ho : oA f D) (hv : vt f) : ∀ n : Nat, 360 * n < 2147483648 → oA (s_days n f).1 (D + n) ∧ vt (s_days n f).1 ∧ ∃ k, k ≤ 360 * n ∧ (s_days n f).2 = nI k
  | 0, _ => ⟨ho, hv, 0, by omega, rfl⟩
  | n + 1, hn => by
    obtain ⟨h1, h2, k, hk, ek⟩ := days_ok ho hv n (by omega)
    have e : s_days (n + 1) f = s_days1 (0 + n) (s_days n f) := itr_last _ _ _ _
    rw [e, s_days1]
    dsimp only
    obtain ⟨q1, q2, m, hm, em⟩ := day_ok h1 h2
    exact ⟨q1, q2, k + m, by omega, by rw [ek, em, nI_add]⟩
end
section
/-! LAND: a day -/
theorem bring_zero (f : mj_S) (h b : Nat) : s_bring f h b 0 = f := by
  have z : ∀ x : Int32, x - 0 = x := by intro x; simp
  have z2 : ∀ x : Int32, x + 0 = x := by intro x; simp
  unfold s_bring
  simp only [z, z2, upd_id, Int32.zero_mul, show (0 : Int32) / 100 = 0 from rfl, ite_self]
theorem MC_nf {l : Launch} {Ω : mj_S → mj_W} {y : MethodName} {ws : List Cond} {rm : Room} {b : Bool} {as : List Value} {w : mj_W} {v : Option Value} {q g t : mj_S} (e : g = t) (h : MC l y ws rm b as w v (Ω (row q t))) : MC l y ws rm b as w v (Ω (row q g)) := by subst e; exact h
section LC
variable {l : Launch} {lp ap : Nat} {Ω : mj_S → mj_W}
theorem lp_poor (hΩ : LV lp ap Ω) {q f : mj_S} {res : Int32} : ∀ (d c : Nat) (a : Int32) (ha : a = -1 ∨ ∃ v, v < 5 ∧ a = nI v), c + d = 5 → res = itr (fun h a => if f (5 + h) = 1 ∧ (a = -1 ∨ f (15 + h) < f (15 + a.toNatClampNeg)) then nI h else a) d c a → GG l cX0_poorestWidow MX0_poorestWidow false (.inl (some (.int res), Ω (row q f))) 4 [some (.ref lp), some (.int a), some (.int (nI (c)))] [] (Ω (row q f)) 0 0
  | 0, c, a, ha, hc, hr => by
    refine G_iload_n dX0_poorestWidow_4 rfl ?_
    refine G_iconst (v := 5) dX0_poorestWidow_5 (by decide) ?_
    refine G_icmp_geN (a := c) (c := 5) 52 dX0_poorestWidow_6 (by decide) (by omega) (fun c6 => ?_) (fun c6 => ?_)
    · refine G_iload_n dX0_poorestWidow_52 rfl ?_
      exact G_iret dX0_poorestWidow_53 ⟨Nat.zero_le _, Nat.zero_le _⟩ (by rw [hr, itr_0])
    · exact (show False by omega).elim
  | d + 1, c, a, ha, hc, hr => by
    refine G_iload_n dX0_poorestWidow_4 rfl ?_
    refine G_iconst (v := 5) dX0_poorestWidow_5 (by decide) ?_
    refine G_icmp_geN (a := c) (c := 5) 52 dX0_poorestWidow_6 (by decide) (by omega) (fun c6 => ?_) (fun c6 => ?_)
    · exact (show False by omega).elim
    · refine G_aload_n dX0_poorestWidow_9 rfl ?_
      refine G_iconst (v := 5) dX0_poorestWidow_10 (by decide) ?_
      refine G_iload_n dX0_poorestWidow_11 rfl ?_
      refine G_iaddN (a := 5) (c := c) (s := 5 + c) dX0_poorestWidow_12 (by omega) ?_
      refine G_callVi dX0_poorestWidow_13 kX0_poorestWidow_X0_at ⟨rfl, rfl⟩ ⟨Nat.zero_le _, Nat.zero_le _⟩ (c_atL hΩ (j := 5 + c) (by omega)) rfl rfl ((hΩ _).1) rfl rfl ?_
      refine G_iconst (v := 1) dX0_poorestWidow_16 (by decide) ?_
      refine G_icmp_ne 46 dX0_poorestWidow_17 (by decide) (fun c17 => ?_) (fun c17 => ?_)
      · refine G_iincN (a := c) (s := c + 1) dX0_poorestWidow_46 rfl (by omega) (L' := [some (.ref lp), some (.int a), some (.int (nI (c + 1)))]) rfl ?_
        refine G_goto 4 dX0_poorestWidow_49 (by decide) ?_
        exact lp_poor hΩ d (c + 1) a ha (by omega) (by rw [hr, itr_s]; congr 1; simp [c17])
      · refine G_iload_n dX0_poorestWidow_20 rfl ?_
        refine G_iconst (v := (-1)) dX0_poorestWidow_21 (by decide) ?_
        refine G_icmp_eq 44 dX0_poorestWidow_22 (by decide) (fun c22 => ?_) (fun c22 => ?_)
        · refine G_iload_n dX0_poorestWidow_44 rfl ?_
          refine G_istore_n dX0_poorestWidow_45 rfl (L' := [some (.ref lp), some (.int (nI (c))), some (.int (nI (c)))]) rfl ?_
          refine G_iincN (a := c) (s := c + 1) dX0_poorestWidow_46 rfl (by omega) (L' := [some (.ref lp), some (.int (nI (c))), some (.int (nI (c + 1)))]) rfl ?_
          refine G_goto 4 dX0_poorestWidow_49 (by decide) ?_
          exact lp_poor hΩ d (c + 1) (nI c) (Or.inr ⟨c, by omega, rfl⟩) (by omega) (by rw [hr, itr_s]; congr 1; simp [c17, c22])
        · obtain ⟨v, hv, ea⟩ := ha.resolve_left c22
          subst ea
          refine G_aload_n dX0_poorestWidow_25 rfl ?_
          refine G_bipush (v := 15) dX0_poorestWidow_26 (by decide) ?_
          refine G_iload_n dX0_poorestWidow_28 rfl ?_
          refine G_iaddN (a := 15) (c := c) (s := 15 + c) dX0_poorestWidow_29 (by omega) ?_
          refine G_callVi dX0_poorestWidow_30 kX0_poorestWidow_X0_at ⟨rfl, rfl⟩ ⟨Nat.zero_le _, Nat.zero_le _⟩ (c_atL hΩ (j := 15 + c) (by omega)) rfl rfl ((hΩ _).1) rfl rfl ?_
          refine G_aload_n dX0_poorestWidow_33 rfl ?_
          refine G_bipush (v := 15) dX0_poorestWidow_34 (by decide) ?_
          refine G_iload_n dX0_poorestWidow_36 rfl ?_
          refine G_iaddN (a := 15) (c := v) (s := 15 + v) dX0_poorestWidow_37 (by omega) ?_
          refine G_callVi dX0_poorestWidow_38 kX0_poorestWidow_X0_at ⟨rfl, rfl⟩ ⟨Nat.zero_le _, Nat.zero_le _⟩ (c_atL hΩ (j := 15 + v) (by omega)) rfl rfl ((hΩ _).1) rfl rfl ?_
          refine G_icmp_ge 46 dX0_poorestWidow_41 (by decide) (fun c41 => ?_) (fun c41 => ?_)
          · refine G_iincN (a := c) (s := c + 1) dX0_poorestWidow_46 rfl (by omega) (L' := [some (.ref lp), some (.int (nI (v))), some (.int (nI (c + 1)))]) rfl ?_
            refine G_goto 4 dX0_poorestWidow_49 (by decide) ?_
            exact lp_poor hΩ d (c + 1) (nI v) (Or.inr ⟨v, hv, rfl⟩) (by omega) (by rw [hr, itr_s]; congr 1; rw [nI_clamp (show v < 2 ^ 31 by omega)]; simp [c17, c22, Int32.not_lt.mpr c41])
          · refine G_iload_n dX0_poorestWidow_44 rfl ?_
            refine G_istore_n dX0_poorestWidow_45 rfl (L' := [some (.ref lp), some (.int (nI (c))), some (.int (nI (c)))]) rfl ?_
            refine G_iincN (a := c) (s := c + 1) dX0_poorestWidow_46 rfl (by omega) (L' := [some (.ref lp), some (.int (nI (c))), some (.int (nI (c + 1)))]) rfl ?_
            refine G_goto 4 dX0_poorestWidow_49 (by decide) ?_
            exact lp_poor hΩ d (c + 1) (nI c) (Or.inr ⟨c, by omega, rfl⟩) (by omega) (by rw [hr, itr_s]; congr 1; rw [nI_clamp (show v < 2 ^ 31 by omega)]; simp [c17, c22, Int32.not_le.mp c41])
theorem c_poorestWidow (hΩ : LV lp ap Ω) {q f : mj_S} : MC l yX0_poorestWidow wsX0_poorestWidow rmX0_poorestWidow false [.ref lp] (Ω (row q f)) (some (.int (s_poor f))) (Ω (row q f)) := by
  refine mj_MC (cc := cX0_poorestWidow) (nl := 3) (ret := (some .int)) (plainFor_of_name (by decide)) rfl (⟨_, rfl, rfl⟩) (Nat.le_of_ble_eq_true rfl) ?_
  show GG l cX0_poorestWidow MX0_poorestWidow false (.inl ((some (.int (s_poor f))), Ω (row q f))) 0 [some (.ref lp), none, none] [] (Ω (row q f)) 0 0
  refine G_iconst (v := (-1)) dX0_poorestWidow_0 (by decide) ?_
  refine G_istore_n dX0_poorestWidow_1 rfl (L' := [some (.ref lp), some (.int (-1)), none]) rfl ?_
  refine G_iconst (v := 0) dX0_poorestWidow_2 (by decide) ?_
  refine G_istore_n dX0_poorestWidow_3 rfl (L' := [some (.ref lp), some (.int (-1)), some (.int 0)]) rfl ?_
  exact lp_poor hΩ 5 0 (-1) (Or.inl rfl) (by omega) rfl
theorem lp_cutTurves (hΩ : LV lp ap Ω) {q res : mj_S} {D : Nat} : ∀ (d c : Nat) (f : mj_S) (y2 y3 y4 : Option Value) (ho : oA f D), c + d = 6 → res = itr s_cut d c f → GG l cX0_cutTurves MX0_cutTurves false (.inl (none, Ω (row q res))) 2 [some (.ref lp), some (.int (nI (c))), y2, y3, y4] [] (Ω (row q f)) 0 0
  | 0, c, f, y2, y3, y4, ho, hc, hr => by
    refine G_iload_n dX0_cutTurves_2 rfl ?_
    refine G_bipush (v := 6) dX0_cutTurves_3 (by decide) ?_
    refine G_icmp_geN (a := c) (c := 6) 112 dX0_cutTurves_5 (by decide) (by omega) (fun c5 => ?_) (fun c5 => ?_)
    · exact G_vret dX0_cutTurves_112 ⟨Nat.zero_le _, Nat.zero_le _⟩ (by rw [hr, itr_0])
    · exact (show False by omega).elim
  | d + 1, c, f, y2, y3, y4, ho, hc, hr => by
    refine G_iload_n dX0_cutTurves_2 rfl ?_
    refine G_bipush (v := 6) dX0_cutTurves_3 (by decide) ?_
    refine G_icmp_geN (a := c) (c := 6) 112 dX0_cutTurves_5 (by decide) (by omega) (fun c5 => ?_) (fun c5 => ?_)
    · exact (show False by omega).elim
    · rcases ho.2.2.2.2.2.2.2.2 c (by omega) with ⟨e1, e2⟩ | ⟨h, b, hh, hb, e1, e2⟩
      · refine G_aload_n dX0_cutTurves_8 rfl ?_
        refine G_sipush (v := 143) dX0_cutTurves_9 (by decide) ?_
        refine G_iload_n dX0_cutTurves_12 rfl ?_
        refine G_iaddN (a := 143) (c := c) (s := 143 + c) dX0_cutTurves_13 (by omega) ?_
        refine G_callVi dX0_cutTurves_14 kX0_cutTurves_X0_at ⟨rfl, rfl⟩ ⟨Nat.zero_le _, Nat.zero_le _⟩ (c_atH hΩ (j := 143 + c) (j' := 139 + c) (by omega) (by omega)) rfl rfl ((hΩ _).1) rfl rfl ?_
        refine G_eqi e1 ?_
        refine G_istore_n dX0_cutTurves_17 rfl (L' := [some (.ref lp), some (.int (nI (c))), some (.int (-1)), y3, y4]) rfl ?_
        refine G_aload_n dX0_cutTurves_18 rfl ?_
        refine G_sipush (v := 149) dX0_cutTurves_19 (by decide) ?_
        refine G_iload_n dX0_cutTurves_22 rfl ?_
        refine G_iaddN (a := 149) (c := c) (s := 149 + c) dX0_cutTurves_23 (by omega) ?_
        refine G_callVi dX0_cutTurves_24 kX0_cutTurves_X0_at ⟨rfl, rfl⟩ ⟨Nat.zero_le _, Nat.zero_le _⟩ (c_atH hΩ (j := 149 + c) (j' := 145 + c) (by omega) (by omega)) rfl rfl ((hΩ _).1) rfl rfl ?_
        refine G_eqi e2 ?_
        refine G_istore_n dX0_cutTurves_27 rfl (L' := [some (.ref lp), some (.int (nI (c))), some (.int (-1)), some (.int (-1)), y4]) rfl ?_
        refine G_iload_n dX0_cutTurves_28 rfl ?_
        refine G_iconst (v := (-1)) dX0_cutTurves_29 (by decide) ?_
        refine G_icmp_eq 106 dX0_cutTurves_30 (by decide) (fun c30 => ?_) (fun c30 => ?_)
        · refine G_iincN (a := c) (s := c + 1) dX0_cutTurves_106 rfl (by omega) (L' := [some (.ref lp), some (.int (nI (c + 1))), some (.int (-1)), some (.int (-1)), y4]) rfl ?_
          refine G_goto 2 dX0_cutTurves_109 (by decide) ?_
          have ecut : s_cut c f = f := by rw [s_cut, if_pos e1]
          refine lp_cutTurves hΩ d (c + 1) f _ _ _ ho (by omega) (by rw [hr, itr_s, ecut])
        · exact absurd rfl c30
      · refine G_aload_n dX0_cutTurves_8 rfl ?_
        refine G_sipush (v := 143) dX0_cutTurves_9 (by decide) ?_
        refine G_iload_n dX0_cutTurves_12 rfl ?_
        refine G_iaddN (a := 143) (c := c) (s := 143 + c) dX0_cutTurves_13 (by omega) ?_
        refine G_callVi dX0_cutTurves_14 kX0_cutTurves_X0_at ⟨rfl, rfl⟩ ⟨Nat.zero_le _, Nat.zero_le _⟩ (c_atH hΩ (j := 143 + c) (j' := 139 + c) (by omega) (by omega)) rfl rfl ((hΩ _).1) rfl rfl ?_
        refine G_eqi e1 ?_
        refine G_istore_n dX0_cutTurves_17 rfl (L' := [some (.ref lp), some (.int (nI (c))), some (.int (nI (h))), y3, y4]) rfl ?_
        refine G_aload_n dX0_cutTurves_18 rfl ?_
        refine G_sipush (v := 149) dX0_cutTurves_19 (by decide) ?_
        refine G_iload_n dX0_cutTurves_22 rfl ?_
        refine G_iaddN (a := 149) (c := c) (s := 149 + c) dX0_cutTurves_23 (by omega) ?_
        refine G_callVi dX0_cutTurves_24 kX0_cutTurves_X0_at ⟨rfl, rfl⟩ ⟨Nat.zero_le _, Nat.zero_le _⟩ (c_atH hΩ (j := 149 + c) (j' := 145 + c) (by omega) (by omega)) rfl rfl ((hΩ _).1) rfl rfl ?_
        refine G_eqi e2 ?_
        refine G_istore_n dX0_cutTurves_27 rfl (L' := [some (.ref lp), some (.int (nI (c))), some (.int (nI (h))), some (.int (nI (b))), y4]) rfl ?_
        refine G_iload_n dX0_cutTurves_28 rfl ?_
        refine G_iconst (v := (-1)) dX0_cutTurves_29 (by decide) ?_
        refine G_icmp_eq 106 dX0_cutTurves_30 (by decide) (fun c30 => ?_) (fun c30 => ?_)
        · exact absurd c30 (nI_m1 (by omega))
        · refine G_iload_n dX0_cutTurves_33 rfl ?_
          refine G_iconst (v := (-1)) dX0_cutTurves_34 (by decide) ?_
          refine G_icmp_eq 106 dX0_cutTurves_35 (by decide) (fun c35 => ?_) (fun c35 => ?_)
          · exact absurd c35 (nI_m1 (by omega))
          · refine G_aload_n dX0_cutTurves_38 rfl ?_
            refine G_sipush (v := 137) dX0_cutTurves_39 (by decide) ?_
            refine G_iload_n dX0_cutTurves_42 rfl ?_
            refine G_iaddN (a := 137) (c := c) (s := 137 + c) dX0_cutTurves_43 (by omega) ?_
            refine G_callVi dX0_cutTurves_44 kX0_cutTurves_X0_at ⟨rfl, rfl⟩ ⟨Nat.zero_le _, Nat.zero_le _⟩ (c_atH hΩ (j := 137 + c) (j' := 133 + c) (by omega) (by omega)) rfl rfl ((hΩ _).1) rfl rfl ?_
            refine G_aload_n dX0_cutTurves_47 rfl ?_
            refine G_bipush (v := 45) dX0_cutTurves_48 (by decide) ?_
            refine G_iload_n dX0_cutTurves_50 rfl ?_
            refine G_iaddN (a := 45) (c := b) (s := 45 + b) dX0_cutTurves_51 (by omega) ?_
            refine G_callVi dX0_cutTurves_52 kX0_cutTurves_X0_at ⟨rfl, rfl⟩ ⟨Nat.zero_le _, Nat.zero_le _⟩ (c_atL hΩ (j := 45 + b) (by omega)) rfl rfl ((hΩ _).1) rfl rfl ?_
            refine G_min dX0_cutTurves_55 kX0_cutTurves_Mmin (by decide) ⟨Nat.zero_le _, Nat.zero_le _⟩ (Nat.le_of_ble_eq_true rfl) ?_
            refine G_istore dX0_cutTurves_58 rfl (L' := [some (.ref lp), some (.int (nI (c))), some (.int (nI (h))), some (.int (nI (b))), some (.int (mn (f (133 + c)) (f (45 + b))))]) rfl ?_
            refine G_aload_n dX0_cutTurves_60 rfl ?_
            refine G_bipush (v := 45) dX0_cutTurves_61 (by decide) ?_
            refine G_iload_n dX0_cutTurves_63 rfl ?_
            refine G_iaddN (a := 45) (c := b) (s := 45 + b) dX0_cutTurves_64 (by omega) ?_
            refine G_iload dX0_cutTurves_65 rfl ?_
            refine G_ineg dX0_cutTurves_67 ?_
            obtain ⟨f1, ef1⟩ : ∃ z : mj_S, z = upd f (45 + b) (f (45 + b) + (-(mn (f (133 + c)) (f (45 + b))))) := ⟨_, rfl⟩
            refine G_callVv dX0_cutTurves_68 kX0_cutTurves_X0_add ⟨rfl, rfl⟩ ⟨Nat.zero_le _, Nat.zero_le _⟩ (c_addL hΩ (j := 45 + b) (by omega) ef1) rfl rfl ((hΩ _).1) rfl rfl ?_
            refine G_aload_n dX0_cutTurves_71 rfl ?_
            refine G_bipush (v := 77) dX0_cutTurves_72 (by decide) ?_
            refine G_iload_n dX0_cutTurves_74 rfl ?_
            refine G_iload_n dX0_cutTurves_75 rfl ?_
            refine G_callSi dX0_cutTurves_76 kX0_cutTurves_X0_plotOf ⟨rfl, rfl⟩ ⟨Nat.zero_le _, Nat.zero_le _⟩ (c_plotOfN (h := h) (b := b) (s := b + 4 * h) (by omega)) rfl rfl rfl ?_
            refine G_iaddN (a := 77) (c := b + 4 * h) (s := 77 + b + 4 * h) dX0_cutTurves_79 (by omega) ?_
            refine G_iload dX0_cutTurves_80 rfl ?_
            obtain ⟨f2, ef2⟩ : ∃ z : mj_S, z = upd f1 (73 + b + 4 * h) (f1 (73 + b + 4 * h) + (mn (f (133 + c)) (f (45 + b)))) := ⟨_, rfl⟩
            refine G_callVv dX0_cutTurves_82 kX0_cutTurves_X0_add ⟨rfl, rfl⟩ ⟨Nat.zero_le _, Nat.zero_le _⟩ (c_addH hΩ (j := 77 + b + 4 * h) (j' := 73 + b + 4 * h) (by omega) (by omega) ef2) rfl rfl ((hΩ _).1) rfl rfl ?_
            refine G_aload_n dX0_cutTurves_85 rfl ?_
            refine G_bipush (v := 20) dX0_cutTurves_86 (by decide) ?_
            refine G_iload_n dX0_cutTurves_88 rfl ?_
            refine G_iaddN (a := 20) (c := h) (s := 20 + h) dX0_cutTurves_89 (by omega) ?_
            refine G_iload dX0_cutTurves_90 rfl ?_
            obtain ⟨f3, ef3⟩ : ∃ z : mj_S, z = upd f2 (20 + h) (f2 (20 + h) + (mn (f (133 + c)) (f (45 + b)))) := ⟨_, rfl⟩
            refine G_callVv dX0_cutTurves_92 kX0_cutTurves_X0_add ⟨rfl, rfl⟩ ⟨Nat.zero_le _, Nat.zero_le _⟩ (c_addL hΩ (j := 20 + h) (by omega) ef3) rfl rfl ((hΩ _).1) rfl rfl ?_
            refine G_aload_n dX0_cutTurves_95 rfl ?_
            refine G_sipush (v := 155) dX0_cutTurves_96 (by decide) ?_
            refine G_iload_n dX0_cutTurves_99 rfl ?_
            refine G_iaddN (a := 155) (c := c) (s := 155 + c) dX0_cutTurves_100 (by omega) ?_
            refine G_iload dX0_cutTurves_101 rfl ?_
            obtain ⟨f4, ef4⟩ : ∃ z : mj_S, z = upd f3 (151 + c) (f3 (151 + c) + (mn (f (133 + c)) (f (45 + b)))) := ⟨_, rfl⟩
            refine G_callVv dX0_cutTurves_103 kX0_cutTurves_X0_add ⟨rfl, rfl⟩ ⟨Nat.zero_le _, Nat.zero_le _⟩ (c_addH hΩ (j := 155 + c) (j' := 151 + c) (by omega) (by omega) ef4) rfl rfl ((hΩ _).1) rfl rfl ?_
            refine G_iincN (a := c) (s := c + 1) dX0_cutTurves_106 rfl (by omega) (L' := [some (.ref lp), some (.int (nI (c + 1))), some (.int (nI (h))), some (.int (nI (b))), some (.int (mn (f (133 + c)) (f (45 + b))))]) rfl ?_
            refine G_goto 2 dX0_cutTurves_109 (by decide) ?_
            have ecut : s_cut c f = f4 := by subst ef4; subst ef3; subst ef2; subst ef1; rw [s_cut, if_neg (by rw [e1]; exact nI_m1 (by omega))]; simp only [e1, e2, nI_clamp (show h < 2 ^ 31 by omega), nI_clamp (show b < 2 ^ 31 by omega), Int32.sub_eq_add_neg]
            rw [← ecut]
            exact lp_cutTurves hΩ d (c + 1) (s_cut c f) _ _ _ (oA_same (sA_cut ho (by omega)) ho) (by omega) hr
theorem c_cutTurves (hΩ : LV lp ap Ω) {q f : mj_S} {D : Nat} (ho : oA f D) : MC l yX0_cutTurves wsX0_cutTurves rmX0_cutTurves false [.ref lp] (Ω (row q f)) none (Ω (row q (s_cuts f))) := by
  refine mj_MC (cc := cX0_cutTurves) (nl := 5) (ret := none) (plainFor_of_name (by decide)) rfl (rfl) (Nat.le_of_ble_eq_true rfl) ?_
  show GG l cX0_cutTurves MX0_cutTurves false (.inl (none, Ω (row q (s_cuts f)))) 0 [some (.ref lp), none, none, none, none] [] (Ω (row q f)) 0 0
  refine G_iconst (v := 0) dX0_cutTurves_0 (by decide) ?_
  refine G_istore_n dX0_cutTurves_1 rfl (L' := [some (.ref lp), some (.int 0), none, none, none]) rfl ?_
  exact lp_cutTurves hΩ 6 0 f _ _ _ ho (by omega) rfl
theorem lp_weather (hΩ : LV lp ap Ω) {q res : mj_S} {r : Nat} (hr9 : r < 10) : ∀ (d c : Nat) (f : mj_S) (hv : vt f), c + d = 20 → res = itr (fun p a => if 6 < r then s_soak p a else s_dry p a) d c f → GG l cX0_weather MX0_weather false (.inl (none, Ω (row q res))) 14 [some (.ref lp), some (.int (nI (r))), some (.int (nI (c)))] [] (Ω (row q f)) 0 0
  | 0, c, f, hv, hc, hr => by
    refine G_iload_n dX0_weather_14 rfl ?_
    refine G_bipush (v := 20) dX0_weather_15 (by decide) ?_
    refine G_icmp_geN (a := c) (c := 20) 58 dX0_weather_17 (by decide) (by omega) (fun c17 => ?_) (fun c17 => ?_)
    · exact G_vret dX0_weather_58 ⟨Nat.zero_le _, Nat.zero_le _⟩ (by rw [hr, itr_0])
    · exact (show False by omega).elim
  | d + 1, c, f, hv, hc, hr => by
    refine G_iload_n dX0_weather_14 rfl ?_
    refine G_bipush (v := 20) dX0_weather_15 (by decide) ?_
    refine G_icmp_geN (a := c) (c := 20) 58 dX0_weather_17 (by decide) (by omega) (fun c17 => ?_) (fun c17 => ?_)
    · exact (show False by omega).elim
    · refine G_aload_n dX0_weather_20 rfl ?_
      refine G_iload_n dX0_weather_21 rfl ?_
      refine G_iconst (v := 1) dX0_weather_22 (by decide) ?_
      refine G_iconst (v := 1) dX0_weather_23 (by decide) ?_
      refine G_callVi dX0_weather_24 kX0_weather_X0_turvesOn ⟨rfl, rfl⟩ ⟨Nat.zero_le _, Nat.zero_le _⟩ (c_tv1 hΩ (p := c) (by omega)) rfl rfl ((hΩ _).1) rfl rfl ?_
      refine G_if_ne 33 dX0_weather_27 (by decide) (fun c27 => ?_) (fun c27 => ?_)
      · refine G_iload_n dX0_weather_33 rfl ?_
        refine G_bipush (v := 6) dX0_weather_34 (by decide) ?_
        refine G_icmp_leN (a := r) (c := 6) 47 dX0_weather_36 (by decide) (by omega) (fun c36 => ?_) (fun c36 => ?_)
        · refine G_aload_n dX0_weather_47 rfl ?_
          refine G_iload_n dX0_weather_48 rfl ?_
          refine G_callVv dX0_weather_49 kX0_weather_X0_dryOut ⟨rfl, rfl⟩ ⟨Nat.zero_le _, Nat.zero_le _⟩ (c_dryOut hΩ (p := c) (by omega)) rfl rfl ((hΩ _).1) rfl rfl ?_
          refine G_iincN (a := c) (s := c + 1) dX0_weather_52 rfl (by omega) (L' := [some (.ref lp), some (.int (nI (r))), some (.int (nI (c + 1)))]) rfl ?_
          refine G_goto 14 dX0_weather_55 (by decide) ?_
          exact lp_weather hΩ hr9 d (c + 1) _ (vt_dry (by omega) hv) (by omega) (by rw [hr, itr_s]; congr 1; exact if_neg (by omega))
        · refine G_aload_n dX0_weather_39 rfl ?_
          refine G_iload_n dX0_weather_40 rfl ?_
          refine G_callVv dX0_weather_41 kX0_weather_X0_wetAgain ⟨rfl, rfl⟩ ⟨Nat.zero_le _, Nat.zero_le _⟩ (c_wetAgain hΩ (p := c) (by omega)) rfl rfl ((hΩ _).1) rfl rfl ?_
          refine G_goto 52 dX0_weather_44 (by decide) ?_
          refine G_iincN (a := c) (s := c + 1) dX0_weather_52 rfl (by omega) (L' := [some (.ref lp), some (.int (nI (r))), some (.int (nI (c + 1)))]) rfl ?_
          refine G_goto 14 dX0_weather_55 (by decide) ?_
          exact lp_weather hΩ hr9 d (c + 1) _ (vt_soak (by omega) hv) (by omega) (by rw [hr, itr_s]; congr 1; exact if_pos (by omega))
      · refine G_goto 52 dX0_weather_30 (by decide) ?_
        refine G_iincN (a := c) (s := c + 1) dX0_weather_52 rfl (by omega) (L' := [some (.ref lp), some (.int (nI (r))), some (.int (nI (c + 1)))]) rfl ?_
        refine G_goto 14 dX0_weather_55 (by decide) ?_
        have e0 : (if 6 < r then s_soak c f else s_dry c f) = f := by split; exact soak_empty (by omega) hv c27; exact dry_empty (by omega) hv c27
        exact lp_weather hΩ hr9 d (c + 1) f hv (by omega) (by rw [hr, itr_s]; exact congrArg _ e0)
theorem c_weather (hΩ : LV lp ap Ω) {q f : mj_S} {r : Nat} (hr9 : r < 10) (hv : vt f) : MC l yX0_weather wsX0_weather rmX0_weather false [.ref lp, .int (nI (r))] (Ω (row q f)) none (Ω (row q (s_wth r f))) := by
  refine mj_MC (cc := cX0_weather) (nl := 3) (ret := none) (plainFor_of_name (by decide)) rfl (rfl) (Nat.le_of_ble_eq_true rfl) ?_
  show GG l cX0_weather MX0_weather false (.inl (none, Ω (row q (s_wth r f)))) 0 [some (.ref lp), some (.int (nI (r))), none] [] (Ω (row q f)) 0 0
  refine G_iload_n dX0_weather_0 rfl ?_
  refine G_iconst (v := 3) dX0_weather_1 (by decide) ?_
  refine G_icmp_leN (a := r) (c := 3) 12 dX0_weather_2 (by decide) (by omega) (fun c2 => ?_) (fun c2 => ?_)
  · refine G_iconst (v := 0) dX0_weather_12 (by decide) ?_
    refine G_istore_n dX0_weather_13 rfl (L' := [some (.ref lp), some (.int (nI (r))), some (.int 0)]) rfl ?_
    exact lp_weather hΩ hr9 20 0 f hv (by omega) (by rw [s_wth, if_neg (by omega), if_pos (by omega)]; exact itr_congr _ _ _ (fun k _ _ x => (if_neg (by omega)).symm))
  · refine G_iload_n dX0_weather_5 rfl ?_
    refine G_bipush (v := 6) dX0_weather_6 (by decide) ?_
    refine G_icmp_gtN (a := r) (c := 6) 12 dX0_weather_8 (by decide) (by omega) (fun c8 => ?_) (fun c8 => ?_)
    · refine G_iconst (v := 0) dX0_weather_12 (by decide) ?_
      refine G_istore_n dX0_weather_13 rfl (L' := [some (.ref lp), some (.int (nI (r))), some (.int 0)]) rfl ?_
      exact lp_weather hΩ hr9 20 0 f hv (by omega) (by rw [s_wth, if_pos c8]; exact itr_congr _ _ _ (fun k _ _ x => (if_pos c8).symm))
    · exact G_vret dX0_weather_11 ⟨Nat.zero_le _, Nat.zero_le _⟩ (by rw [s_wth, if_neg (by omega), if_neg (by omega)])
theorem c_cartHome (hΩ : LV lp ap Ω) {q f : mj_S} {h b : Nat} {lf : Int32} (hh : h < 5) (hb : b < 4) : MC l yX0_cartHome wsX0_cartHome rmX0_cartHome false [.ref lp, .int (nI (h)), .int (nI (b)), .int lf] (Ω (row q f)) (some (.int (mn (f (113 + b + 4 * h)) lf))) (Ω (row q (s_bring f h b (mn (f (113 + b + 4 * h)) lf)))) := by
  refine mj_MC (cc := cX0_cartHome) (nl := 7) (ret := (some .int)) (plainFor_of_name (by decide)) rfl (⟨_, rfl, rfl⟩) (Nat.le_of_ble_eq_true rfl) ?_
  show GG l cX0_cartHome MX0_cartHome false (.inl ((some (.int (mn (f (113 + b + 4 * h)) lf))), Ω (row q (s_bring f h b (mn (f (113 + b + 4 * h)) lf))))) 0 [some (.ref lp), some (.int (nI (h))), some (.int (nI (b))), some (.int lf), none, none, none] [] (Ω (row q f)) 0 0
  refine G_aload_n dX0_cartHome_0 rfl ?_
  refine G_bipush (v := 117) dX0_cartHome_1 (by decide) ?_
  refine G_iload_n dX0_cartHome_3 rfl ?_
  refine G_iload_n dX0_cartHome_4 rfl ?_
  refine G_callSi dX0_cartHome_5 kX0_cartHome_X0_plotOf ⟨rfl, rfl⟩ ⟨Nat.zero_le _, Nat.zero_le _⟩ (c_plotOfN (h := h) (b := b) (s := b + 4 * h) (by omega)) rfl rfl rfl ?_
  refine G_iaddN (a := 117) (c := b + 4 * h) (s := 117 + b + 4 * h) dX0_cartHome_8 (by omega) ?_
  refine G_callVi dX0_cartHome_9 kX0_cartHome_X0_at ⟨rfl, rfl⟩ ⟨Nat.zero_le _, Nat.zero_le _⟩ (c_atH hΩ (j := 117 + b + 4 * h) (j' := 113 + b + 4 * h) (by omega) (by omega)) rfl rfl ((hΩ _).1) rfl rfl ?_
  refine G_iload_n dX0_cartHome_12 rfl ?_
  refine G_min dX0_cartHome_13 kX0_cartHome_Mmin (by decide) ⟨Nat.zero_le _, Nat.zero_le _⟩ (Nat.le_of_ble_eq_true rfl) ?_
  obtain ⟨z1, ez1⟩ : ∃ z : Int32, z = (mn (f (113 + b + 4 * h)) lf) := ⟨_, rfl⟩
  rw [← ez1]
  refine G_eqi ez1.symm ?_
  refine G_istore dX0_cartHome_16 rfl (L' := [some (.ref lp), some (.int (nI (h))), some (.int (nI (b))), some (.int lf), some (.int z1), none, none]) rfl ?_
  refine G_iload dX0_cartHome_18 rfl ?_
  refine G_if_ne 25 dX0_cartHome_20 (by decide) (fun c20 => ?_) (fun c20 => ?_)
  · refine G_aload_n dX0_cartHome_25 rfl ?_
    refine G_bipush (v := 117) dX0_cartHome_26 (by decide) ?_
    refine G_iload_n dX0_cartHome_28 rfl ?_
    refine G_iload_n dX0_cartHome_29 rfl ?_
    refine G_callSi dX0_cartHome_30 kX0_cartHome_X0_plotOf ⟨rfl, rfl⟩ ⟨Nat.zero_le _, Nat.zero_le _⟩ (c_plotOfN (h := h) (b := b) (s := b + 4 * h) (by omega)) rfl rfl rfl ?_
    refine G_iaddN (a := 117) (c := b + 4 * h) (s := 117 + b + 4 * h) dX0_cartHome_33 (by omega) ?_
    refine G_iload dX0_cartHome_34 rfl ?_
    refine G_ineg dX0_cartHome_36 ?_
    obtain ⟨f1, ef1⟩ : ∃ z : mj_S, z = upd f (113 + b + 4 * h) (f (113 + b + 4 * h) + (-z1)) := ⟨_, rfl⟩
    refine G_callVv dX0_cartHome_37 kX0_cartHome_X0_add ⟨rfl, rfl⟩ ⟨Nat.zero_le _, Nat.zero_le _⟩ (c_addH hΩ (j := 117 + b + 4 * h) (j' := 113 + b + 4 * h) (by omega) (by omega) ef1) rfl rfl ((hΩ _).1) rfl rfl ?_
    refine G_aload_n dX0_cartHome_40 rfl ?_
    refine G_bipush (v := 15) dX0_cartHome_41 (by decide) ?_
    refine G_iload_n dX0_cartHome_43 rfl ?_
    refine G_iaddN (a := 15) (c := h) (s := 15 + h) dX0_cartHome_44 (by omega) ?_
    refine G_iload dX0_cartHome_45 rfl ?_
    obtain ⟨f2, ef2⟩ : ∃ z : mj_S, z = upd f1 (15 + h) (f1 (15 + h) + z1) := ⟨_, rfl⟩
    refine G_callVv dX0_cartHome_47 kX0_cartHome_X0_add ⟨rfl, rfl⟩ ⟨Nat.zero_le _, Nat.zero_le _⟩ (c_addL hΩ (j := 15 + h) (by omega) ef2) rfl rfl ((hΩ _).1) rfl rfl ?_
    refine G_aload_n dX0_cartHome_50 rfl ?_
    refine G_iconst (v := 5) dX0_cartHome_51 (by decide) ?_
    refine G_iload_n dX0_cartHome_52 rfl ?_
    refine G_iaddN (a := 5) (c := h) (s := 5 + h) dX0_cartHome_53 (by omega) ?_
    refine G_callVi dX0_cartHome_54 kX0_cartHome_X0_at ⟨rfl, rfl⟩ ⟨Nat.zero_le _, Nat.zero_le _⟩ (c_atL hΩ (j := 5 + h) (by omega)) rfl rfl ((hΩ _).1) rfl rfl ?_
    refine G_iconst (v := 1) dX0_cartHome_57 (by decide) ?_
    refine G_icmp_ne 65 dX0_cartHome_58 (by decide) (fun c58 => ?_) (fun c58 => ?_)
    · refine G_aload_n dX0_cartHome_65 rfl ?_
      refine G_callVi dX0_cartHome_66 kX0_cartHome_X0_poorestWidow ⟨rfl, rfl⟩ ⟨Nat.zero_le _, Nat.zero_le _⟩ (c_poorestWidow hΩ) rfl rfl ((hΩ _).1) rfl rfl ?_
      refine G_istore dX0_cartHome_69 rfl (L' := [some (.ref lp), some (.int (nI (h))), some (.int (nI (b))), some (.int lf), some (.int z1), some (.int (s_poor f2)), none]) rfl ?_
      refine G_iload dX0_cartHome_71 rfl ?_
      refine G_iconst (v := (-1)) dX0_cartHome_73 (by decide) ?_
      refine G_icmp_eq 133 dX0_cartHome_74 (by decide) (fun c74 => ?_) (fun c74 => ?_)
      · refine G_iload dX0_cartHome_133 rfl ?_
        refine G_iret dX0_cartHome_135 ⟨Nat.zero_le _, Nat.zero_le _⟩ ?_
        refine X_iw rfl (congrArg (fun z => Ω (row q z)) ?_)
        unfold s_bring
        simp only [Int32.sub_eq_add_neg, ← ef1, ← ef2]
        rw [if_neg c58, if_pos c74]
      · obtain ⟨v, hv, ev⟩ := (poor_in f2).resolve_left c74
        rw [ev]
        refine G_iload dX0_cartHome_77 rfl ?_
        refine G_aload_n dX0_cartHome_79 rfl ?_
        refine G_iconst (v := 3) dX0_cartHome_80 (by decide) ?_
        refine G_callVi dX0_cartHome_81 kX0_cartHome_X0_at ⟨rfl, rfl⟩ ⟨Nat.zero_le _, Nat.zero_le _⟩ (c_atL hΩ (j := 3) (by omega)) rfl rfl ((hΩ _).1) rfl rfl ?_
        refine G_imul dX0_cartHome_84 ?_
        refine G_bipush (v := 100) dX0_cartHome_85 (by decide) ?_
        refine G_idiv dX0_cartHome_87 (by decide) ?_
        obtain ⟨z2, ez2⟩ : ∃ z : Int32, z = ((z1 * (f2 (3))) / 100) := ⟨_, rfl⟩
        refine G_eqi ez2.symm ?_
        refine G_istore dX0_cartHome_88 rfl (L' := [some (.ref lp), some (.int (nI (h))), some (.int (nI (b))), some (.int lf), some (.int z1), some (.int (nI (v))), some (.int z2)]) rfl ?_
        refine G_aload_n dX0_cartHome_90 rfl ?_
        refine G_bipush (v := 15) dX0_cartHome_91 (by decide) ?_
        refine G_iload_n dX0_cartHome_93 rfl ?_
        refine G_iaddN (a := 15) (c := h) (s := 15 + h) dX0_cartHome_94 (by omega) ?_
        refine G_iload dX0_cartHome_95 rfl ?_
        refine G_ineg dX0_cartHome_97 ?_
        obtain ⟨f3, ef3⟩ : ∃ z : mj_S, z = upd f2 (15 + h) (f2 (15 + h) + (-z2)) := ⟨_, rfl⟩
        refine G_callVv dX0_cartHome_98 kX0_cartHome_X0_add ⟨rfl, rfl⟩ ⟨Nat.zero_le _, Nat.zero_le _⟩ (c_addL hΩ (j := 15 + h) (by omega) ef3) rfl rfl ((hΩ _).1) rfl rfl ?_
        refine G_aload_n dX0_cartHome_101 rfl ?_
        refine G_bipush (v := 30) dX0_cartHome_102 (by decide) ?_
        refine G_iload_n dX0_cartHome_104 rfl ?_
        refine G_iaddN (a := 30) (c := h) (s := 30 + h) dX0_cartHome_105 (by omega) ?_
        refine G_iload dX0_cartHome_106 rfl ?_
        obtain ⟨f4, ef4⟩ : ∃ z : mj_S, z = upd f3 (30 + h) (f3 (30 + h) + z2) := ⟨_, rfl⟩
        refine G_callVv dX0_cartHome_108 kX0_cartHome_X0_add ⟨rfl, rfl⟩ ⟨Nat.zero_le _, Nat.zero_le _⟩ (c_addL hΩ (j := 30 + h) (by omega) ef4) rfl rfl ((hΩ _).1) rfl rfl ?_
        refine G_aload_n dX0_cartHome_111 rfl ?_
        refine G_bipush (v := 15) dX0_cartHome_112 (by decide) ?_
        refine G_iload dX0_cartHome_114 rfl ?_
        refine G_iaddN (a := 15) (c := v) (s := 15 + v) dX0_cartHome_116 (by omega) ?_
        refine G_iload dX0_cartHome_117 rfl ?_
        obtain ⟨f5, ef5⟩ : ∃ z : mj_S, z = upd f4 (15 + v) (f4 (15 + v) + z2) := ⟨_, rfl⟩
        refine G_callVv dX0_cartHome_119 kX0_cartHome_X0_add ⟨rfl, rfl⟩ ⟨Nat.zero_le _, Nat.zero_le _⟩ (c_addL hΩ (j := 15 + v) (by omega) ef5) rfl rfl ((hΩ _).1) rfl rfl ?_
        refine G_aload_n dX0_cartHome_122 rfl ?_
        refine G_bipush (v := 25) dX0_cartHome_123 (by decide) ?_
        refine G_iload dX0_cartHome_125 rfl ?_
        refine G_iaddN (a := 25) (c := v) (s := 25 + v) dX0_cartHome_127 (by omega) ?_
        refine G_iload dX0_cartHome_128 rfl ?_
        obtain ⟨f6, ef6⟩ : ∃ z : mj_S, z = upd f5 (25 + v) (f5 (25 + v) + z2) := ⟨_, rfl⟩
        refine G_callVv dX0_cartHome_130 kX0_cartHome_X0_add ⟨rfl, rfl⟩ ⟨Nat.zero_le _, Nat.zero_le _⟩ (c_addL hΩ (j := 25 + v) (by omega) ef6) rfl rfl ((hΩ _).1) rfl rfl ?_
        refine G_iload dX0_cartHome_133 rfl ?_
        refine G_iret dX0_cartHome_135 ⟨Nat.zero_le _, Nat.zero_le _⟩ ?_
        refine X_iw rfl (congrArg (fun z => Ω (row q z)) ?_)
        unfold s_bring
        simp only [Int32.sub_eq_add_neg, ← ef1, ← ef2]
        rw [if_neg c58, if_neg c74, ev, nI_clamp (show v < 2 ^ 31 by omega), ← ez2, ← ef3, ← ef4, ← ef5, ← ef6]
    · refine G_iconst (v := (-1)) dX0_cartHome_61 (by decide) ?_
      refine G_goto 69 dX0_cartHome_62 (by decide) ?_
      refine G_istore dX0_cartHome_69 rfl (L' := [some (.ref lp), some (.int (nI (h))), some (.int (nI (b))), some (.int lf), some (.int z1), some (.int (-1)), none]) rfl ?_
      refine G_iload dX0_cartHome_71 rfl ?_
      refine G_iconst (v := (-1)) dX0_cartHome_73 (by decide) ?_
      refine G_icmp_eq 133 dX0_cartHome_74 (by decide) (fun c74 => ?_) (fun c74 => ?_)
      · refine G_iload dX0_cartHome_133 rfl ?_
        refine G_iret dX0_cartHome_135 ⟨Nat.zero_le _, Nat.zero_le _⟩ ?_
        refine X_iw rfl (congrArg (fun z => Ω (row q z)) ?_)
        unfold s_bring
        simp only [Int32.sub_eq_add_neg, ← ef1, ← ef2]
        rw [if_pos c58]
      · exact absurd rfl c74
  · refine G_iconst (v := 0) dX0_cartHome_23 (by decide) ?_
    refine G_iret dX0_cartHome_24 ⟨Nat.zero_le _, Nat.zero_le _⟩ ?_
    have e0 : z1 = 0 := c20
    rw [e0, bring_zero]
theorem lp_cart (hΩ : LV lp ap Ω) {q F : mj_S} {X : mj_R} {D b : Nat} {lf hm1 : Int32} (hb : b < 4) (K : ∀ (y5 y6 : Option Value), GG l cX0_goCarts MX0_goCarts false X 71 [some (.ref lp), some (.int (nI (D % 5))), some (.int hm1), some (.int (nI b)), some (.int lf), y5, y6] [] (Ω (row q F)) 0 0) : ∀ (d c : Nat) (f : mj_S) (l1 x : Int32) (y6 : Option Value), c + d = 5 → (F, lf) = itr (s_cart1 D b) d c (f, l1) → hm1 = x + (l1 - lf) → GG l cX0_goCarts MX0_goCarts false X 32 [some (.ref lp), some (.int (nI (D % 5))), some (.int x), some (.int (nI b)), some (.int l1), some (.int (nI c)), y6] [] (Ω (row q f)) 0 0
  | 0, c, f, l1, x, y6, hc, hr, hm => by
    refine G_iload dX0_goCarts_32 rfl ?_
    refine G_iconst (v := 5) dX0_goCarts_34 (by decide) ?_
    refine G_icmp_geN (a := c) (c := 5) 71 dX0_goCarts_35 (by decide) (by omega) (fun c35 => ?_) (fun c35 => ?_)
    · cases hr
      have e : hm1 = x := by rw [hm]; grind
      subst e
      exact K _ _
    · exact (show False by omega).elim
  | d + 1, c, f, l1, x, y6, hc, hr, hm => by
    refine G_iload dX0_goCarts_32 rfl ?_
    refine G_iconst (v := 5) dX0_goCarts_34 (by decide) ?_
    refine G_icmp_geN (a := c) (c := 5) 71 dX0_goCarts_35 (by decide) (by omega) (fun c35 => ?_) (fun c35 => ?_)
    · exact (show False by omega).elim
    · refine G_aload_n dX0_goCarts_38 rfl ?_
      refine G_iload_n dX0_goCarts_39 rfl ?_
      refine G_iload dX0_goCarts_40 rfl ?_
      refine G_iaddN (a := (D % 5)) (c := c) (s := (D % 5) + c) dX0_goCarts_42 (by omega) ?_
      refine G_iconst (v := 5) dX0_goCarts_43 (by decide) ?_
      refine G_iremN (a := (D % 5) + c) (c := 5) (s := (((D % 5) + c) % 5)) dX0_goCarts_44 (by omega) (by omega) ?_
      rw [show ((D % 5) + c) % 5 = (D + c) % 5 by omega]
      refine G_iload_n dX0_goCarts_45 rfl ?_
      refine G_iload dX0_goCarts_46 rfl ?_
      refine G_callVi dX0_goCarts_48 kX0_goCarts_X0_cartHome ⟨rfl, rfl⟩ ⟨Nat.zero_le _, Nat.zero_le _⟩ (c_cartHome hΩ (h := ((D + c) % 5)) (b := b) (by omega) (by omega)) rfl rfl ((hΩ _).1) rfl rfl ?_
      refine G_istore dX0_goCarts_51 rfl (L' := [some (.ref lp), some (.int (nI ((D % 5)))), some (.int x), some (.int (nI (b))), some (.int l1), some (.int (nI (c))), some (.int (mn (f (113 + b + 4 * ((D + c) % 5))) l1))]) rfl ?_
      refine G_iload dX0_goCarts_53 rfl ?_
      refine G_iload dX0_goCarts_55 rfl ?_
      refine G_isub dX0_goCarts_57 ?_
      refine G_istore dX0_goCarts_58 rfl (L' := [some (.ref lp), some (.int (nI ((D % 5)))), some (.int x), some (.int (nI (b))), some (.int (l1 - (mn (f (113 + b + 4 * ((D + c) % 5))) l1))), some (.int (nI (c))), some (.int (mn (f (113 + b + 4 * ((D + c) % 5))) l1))]) rfl ?_
      refine G_iload_n dX0_goCarts_60 rfl ?_
      refine G_iload dX0_goCarts_61 rfl ?_
      refine G_iadd dX0_goCarts_63 ?_
      refine G_istore_n dX0_goCarts_64 rfl (L' := [some (.ref lp), some (.int (nI ((D % 5)))), some (.int (x + (mn (f (113 + b + 4 * ((D + c) % 5))) l1))), some (.int (nI (b))), some (.int (l1 - (mn (f (113 + b + 4 * ((D + c) % 5))) l1))), some (.int (nI (c))), some (.int (mn (f (113 + b + 4 * ((D + c) % 5))) l1))]) rfl ?_
      refine G_iincN (a := c) (s := c + 1) dX0_goCarts_65 rfl (by omega) (L' := [some (.ref lp), some (.int (nI ((D % 5)))), some (.int (x + (mn (f (113 + b + 4 * ((D + c) % 5))) l1))), some (.int (nI (b))), some (.int (l1 - (mn (f (113 + b + 4 * ((D + c) % 5))) l1))), some (.int (nI (c + 1))), some (.int (mn (f (113 + b + 4 * ((D + c) % 5))) l1))]) rfl ?_
      refine G_goto 32 dX0_goCarts_68 (by decide) ?_
      exact lp_cart hΩ hb K d (c + 1) _ _ _ _ (by omega) hr (by rw [hm]; grind)
theorem lp_carts (hΩ : LV lp ap Ω) {q : mj_S} {D : Nat} {res : mj_S × Int32} : ∀ (d c : Nat) (f : mj_S) (x : Int32) (y4 y5 y6 : Option Value), c + d = 4 → res = itr (s_carts1 D) d c (f, x) → GG l cX0_goCarts MX0_goCarts false (.inl (some (.int res.2), Ω (row q res.1))) 14 [some (.ref lp), some (.int (nI (D % 5))), some (.int x), some (.int (nI c)), y4, y5, y6] [] (Ω (row q f)) 0 0
  | 0, c, f, x, y4, y5, y6, hc, hr => by
    refine G_iload_n dX0_goCarts_14 rfl ?_
    refine G_iconst (v := 4) dX0_goCarts_15 (by decide) ?_
    refine G_icmp_geN (a := c) (c := 4) 77 dX0_goCarts_16 (by decide) (by omega) (fun c16 => ?_) (fun c16 => ?_)
    · refine G_iload_n dX0_goCarts_77 rfl ?_
      exact G_iret dX0_goCarts_78 ⟨Nat.zero_le _, Nat.zero_le _⟩ (by rw [hr, itr_0])
    · exact (show False by omega).elim
  | d + 1, c, f, x, y4, y5, y6, hc, hr => by
    refine G_iload_n dX0_goCarts_14 rfl ?_
    refine G_iconst (v := 4) dX0_goCarts_15 (by decide) ?_
    refine G_icmp_geN (a := c) (c := 4) 77 dX0_goCarts_16 (by decide) (by omega) (fun c16 => ?_) (fun c16 => ?_)
    · exact (show False by omega).elim
    · refine G_aload_n dX0_goCarts_19 rfl ?_
      refine G_bipush (v := 49) dX0_goCarts_20 (by decide) ?_
      refine G_iload_n dX0_goCarts_22 rfl ?_
      refine G_iaddN (a := 49) (c := c) (s := 49 + c) dX0_goCarts_23 (by omega) ?_
      refine G_callVi dX0_goCarts_24 kX0_goCarts_X0_at ⟨rfl, rfl⟩ ⟨Nat.zero_le _, Nat.zero_le _⟩ (c_atL hΩ (j := 49 + c) (by omega)) rfl rfl ((hΩ _).1) rfl rfl ?_
      refine G_istore dX0_goCarts_27 rfl (L' := [some (.ref lp), some (.int (nI ((D % 5)))), some (.int x), some (.int (nI (c))), some (.int (f (49 + c))), y5, y6]) rfl ?_
      refine G_iconst (v := 0) dX0_goCarts_29 (by decide) ?_
      refine G_istore dX0_goCarts_30 rfl (L' := [some (.ref lp), some (.int (nI ((D % 5)))), some (.int x), some (.int (nI (c))), some (.int (f (49 + c))), some (.int 0), y6]) rfl ?_
      refine lp_cart hΩ (F := (s_cart D c f).1) (lf := (s_cart D c f).2) (hm1 := x + (f (49 + c) - (s_cart D c f).2)) (by omega) (fun y5 y6 => ?_) 5 0 f _ _ _ (by omega) rfl rfl
      refine G_iincN (a := c) (s := c + 1) dX0_goCarts_71 rfl (by omega) (L' := [some (.ref lp), some (.int (nI ((D % 5)))), some (.int (x + (f (49 + c) - (s_cart D c f).2))), some (.int (nI (c + 1))), some (.int (s_cart D c f).2), y5, y6]) rfl ?_
      refine G_goto 14 dX0_goCarts_74 (by decide) ?_
      exact lp_carts hΩ d (c + 1) _ _ _ _ _ (by omega) hr
theorem c_goCarts (hΩ : LV lp ap Ω) {q f : mj_S} {D : Nat} (hD : f 0 = nI D) (hD2 : D < 2147483648) : MC l yX0_goCarts wsX0_goCarts rmX0_goCarts false [.ref lp] (Ω (row q f)) (some (.int (s_carts D f).2)) (Ω (row q ((s_carts D f).1))) := by
  refine mj_MC (cc := cX0_goCarts) (nl := 7) (ret := (some .int)) (plainFor_of_name (by decide)) rfl (⟨_, rfl, rfl⟩) (Nat.le_of_ble_eq_true rfl) ?_
  show GG l cX0_goCarts MX0_goCarts false (.inl ((some (.int (s_carts D f).2)), Ω (row q ((s_carts D f).1)))) 0 [some (.ref lp), none, none, none, none, none, none] [] (Ω (row q f)) 0 0
  refine G_aload_n dX0_goCarts_0 rfl ?_
  refine G_iconst (v := 0) dX0_goCarts_1 (by decide) ?_
  refine G_callVi dX0_goCarts_2 kX0_goCarts_X0_at ⟨rfl, rfl⟩ ⟨Nat.zero_le _, Nat.zero_le _⟩ (c_atL hΩ (j := 0) (by omega)) rfl rfl ((hΩ _).1) rfl rfl ?_
  refine G_eqi hD ?_
  refine G_iconst (v := 5) dX0_goCarts_5 (by decide) ?_
  refine G_callSi dX0_goCarts_6 kX0_goCarts_J9_floorMod_7cf53 ⟨rfl, rfl⟩ ⟨Nat.zero_le _, Nat.zero_le _⟩ (c_fmod (a := D) (c := 5) (by omega) (by omega)) rfl rfl rfl ?_
  refine G_istore_n dX0_goCarts_9 rfl (L' := [some (.ref lp), some (.int (nI (((D) % 5)))), none, none, none, none, none]) rfl ?_
  refine G_iconst (v := 0) dX0_goCarts_10 (by decide) ?_
  refine G_istore_n dX0_goCarts_11 rfl (L' := [some (.ref lp), some (.int (nI (((D) % 5)))), some (.int 0), none, none, none, none]) rfl ?_
  refine G_iconst (v := 0) dX0_goCarts_12 (by decide) ?_
  refine G_istore_n dX0_goCarts_13 rfl (L' := [some (.ref lp), some (.int (nI (((D) % 5)))), some (.int 0), some (.int 0), none, none, none]) rfl ?_
  exact lp_carts hΩ 4 0 f 0 _ _ _ (by omega) rfl
theorem lp_passDays (hΩ : LV lp ap Ω) {q : mj_S} {n : Nat} {res : mj_S × Int32} : ∀ (d c D : Nat) (f : mj_S) (x : Int32), oA f D → vt f → D + d < 2147483647 ∧ n < 2147483648 → c + d = n → res = itr s_days1 d c (f, x) → GG l cX0_passDays MX0_passDays false (.inl (some (.int res.2), Ω (row q res.1))) 4 [some (.ref lp), some (.int (nI n)), some (.int x), some (.int (nI c))] [] (Ω (row q f)) 0 0
  | 0, c, D, f, x, ho, hv, hn, hc, hr => by
    refine G_iload_n dX0_passDays_4 rfl ?_
    refine G_iload_n dX0_passDays_5 rfl ?_
    refine G_icmp_geN (a := c) (c := n) 66 dX0_passDays_6 (by decide) (by omega) (fun c6 => ?_) (fun c6 => ?_)
    · refine G_iload_n dX0_passDays_66 rfl ?_
      exact G_iret dX0_passDays_67 ⟨Nat.zero_le _, Nat.zero_le _⟩ (by rw [hr, itr_0])
    · exact (show False by omega).elim
  | d + 1, c, D, f, x, ho, hv, hn, hc, hr => by
    refine G_iload_n dX0_passDays_4 rfl ?_
    refine G_iload_n dX0_passDays_5 rfl ?_
    refine G_icmp_geN (a := c) (c := n) 66 dX0_passDays_6 (by decide) (by omega) (fun c6 => ?_) (fun c6 => ?_)
    · exact (show False by omega).elim
    · refine G_aload_n dX0_passDays_9 rfl ?_
      refine G_iconst (v := 0) dX0_passDays_10 (by decide) ?_
      refine G_iconst (v := 1) dX0_passDays_11 (by decide) ?_
      obtain ⟨f1, ef1⟩ : ∃ z : mj_S, z = upd f (0) (f (0) + 1) := ⟨_, rfl⟩
      refine G_callVv dX0_passDays_12 kX0_passDays_X0_add ⟨rfl, rfl⟩ ⟨Nat.zero_le _, Nat.zero_le _⟩ (c_addL hΩ (j := 0) (by omega) ef1) rfl rfl ((hΩ _).1) rfl rfl ?_
      have hof1 : oA f1 (D + 1) := by rw [ef1]; exact oA_day ho
      have hvf1 : vt f1 := by rw [ef1]; exact vt_same (sT_upd (sT_rf f) (by unfold inT; omega)) hv
      refine G_aload_n dX0_passDays_15 rfl ?_
      refine G_iconst (v := 1) dX0_passDays_16 (by decide) ?_
      refine G_callVi dX0_passDays_17 kX0_passDays_X0_at ⟨rfl, rfl⟩ ⟨Nat.zero_le _, Nat.zero_le _⟩ (c_atL hΩ (j := 1) (by omega)) rfl rfl ((hΩ _).1) rfl rfl ?_
      refine G_iconst (v := 1) dX0_passDays_20 (by decide) ?_
      refine G_icmp_ne 36 dX0_passDays_21 (by decide) (fun c21 => ?_) (fun c21 => ?_)
      · refine G_aload_n dX0_passDays_36 rfl ?_
        obtain ⟨g1, eg1⟩ : ∃ z : mj_S, z = s_cuts f1 := ⟨_, rfl⟩
        refine G_callVv dX0_passDays_37 kX0_passDays_X0_cutTurves ⟨rfl, rfl⟩ ⟨Nat.zero_le _, Nat.zero_le _⟩ (MC_nf eg1 (c_cutTurves hΩ hof1)) rfl rfl ((hΩ _).1) rfl rfl ?_
        obtain ⟨hsg1, hvg1⟩ := cuts_ok (f := f1) 6 0 f1 (by omega) (sA_rf _) hof1 hvf1
        rw [show itr s_cut 6 0 f1 = g1 from eg1.symm] at hsg1 hvg1
        have hog1 := oA_same hsg1 hof1
        obtain ⟨sg, hs9, hs⟩ := hog1.2.2.1
        refine G_aload_n dX0_passDays_40 rfl ?_
        refine G_aload_n dX0_passDays_41 rfl ?_
        refine G_aload_n dX0_passDays_42 rfl ?_
        refine G_iconst (v := 0) dX0_passDays_43 (by decide) ?_
        refine G_callVi dX0_passDays_44 kX0_passDays_X0_at ⟨rfl, rfl⟩ ⟨Nat.zero_le _, Nat.zero_le _⟩ (c_atL hΩ (j := 0) (by omega)) rfl rfl ((hΩ _).1) rfl rfl ?_
        refine G_eqi hog1.1 ?_
        refine G_callVi dX0_passDays_47 kX0_passDays_X0_rainOf ⟨rfl, rfl⟩ ⟨Nat.zero_le _, Nat.zero_le _⟩ (c_rainOf hΩ (d := D + 1) (sg := sg) (by omega) hs hs9) rfl rfl ((hΩ _).1) rfl rfl ?_
        obtain ⟨g2, eg2⟩ : ∃ z : mj_S, z = s_wth (s_rain g1 (D + 1)) g1 := ⟨_, rfl⟩
        refine G_callVv dX0_passDays_50 kX0_passDays_X0_weather ⟨rfl, rfl⟩ ⟨Nat.zero_le _, Nat.zero_le _⟩ (MC_nf eg2 (c_weather hΩ (r := (s_rain g1 (D + 1))) (by exact Nat.mod_lt _ (by omega)) hvg1)) rfl rfl ((hΩ _).1) rfl rfl ?_
        have hog2 : oA g2 (D + 1) := by rw [eg2]; exact oA_same sA_wth hog1
        have hDg2 := hog2.1
        refine G_iload_n dX0_passDays_53 rfl ?_
        refine G_aload_n dX0_passDays_54 rfl ?_
        refine G_callVi dX0_passDays_55 kX0_passDays_X0_goCarts ⟨rfl, rfl⟩ ⟨Nat.zero_le _, Nat.zero_le _⟩ (c_goCarts hΩ hDg2 (by omega)) rfl rfl ((hΩ _).1) rfl rfl ?_
        refine G_iadd dX0_passDays_58 ?_
        refine G_istore_n dX0_passDays_59 rfl (L' := [some (.ref lp), some (.int (nI (n))), some (.int (x + (s_carts (D + 1) g2).2)), some (.int (nI (c)))]) rfl ?_
        refine G_iincN (a := c) (s := c + 1) dX0_passDays_60 rfl (by omega) (L' := [some (.ref lp), some (.int (nI (n))), some (.int (x + (s_carts (D + 1) g2).2)), some (.int (nI (c + 1)))]) rfl ?_
        refine G_goto 4 dX0_passDays_63 (by decide) ?_
        have ed : s_day f = s_carts (D + 1) g2 := by
          have q1 : ¬ f 1 = 1 := by rw [ef1, upd_n (by omega)] at c21; exact c21
          have q2 : s_rain g1 (D + 1) = s_rain f1 (D + 1) := by rw [s_rain, s_rain, hsg1 2 (Or.inl (by omega))]
          rw [s_day, if_neg q1, ← ef1, hof1.1, nI_clamp (by omega), ← eg1, ← q2, ← eg2]
        obtain ⟨k1, k2, -⟩ := day_ok ho hv
        rw [ed] at k1 k2
        exact lp_passDays hΩ d (c + 1) (D + 1) _ _ k1 k2 (by omega) (by omega) (by rw [hr, itr_s, s_days1]; dsimp only; rw [ed])
      · refine G_aload_n dX0_passDays_24 rfl ?_
        refine G_iconst (v := 0) dX0_passDays_25 (by decide) ?_
        obtain ⟨g3, eg3⟩ : ∃ z : mj_S, z = s_wth 0 f1 := ⟨_, rfl⟩
        refine G_callVv dX0_passDays_26 kX0_passDays_X0_weather ⟨rfl, rfl⟩ ⟨Nat.zero_le _, Nat.zero_le _⟩ (MC_nf eg3 (c_weather hΩ (r := 0) (by omega) hvf1)) rfl rfl ((hΩ _).1) rfl rfl ?_
        refine G_aload_n dX0_passDays_29 rfl ?_
        obtain ⟨g4, eg4⟩ : ∃ z : mj_S, z = s_burn g3 := ⟨_, rfl⟩
        refine G_callVv dX0_passDays_30 kX0_passDays_X0_burn ⟨rfl, rfl⟩ ⟨Nat.zero_le _, Nat.zero_le _⟩ (MC_nf eg4 (c_burn hΩ)) rfl rfl ((hΩ _).1) rfl rfl ?_
        refine G_goto 60 dX0_passDays_33 (by decide) ?_
        refine G_iincN (a := c) (s := c + 1) dX0_passDays_60 rfl (by omega) (L' := [some (.ref lp), some (.int (nI (n))), some (.int x), some (.int (nI (c + 1)))]) rfl ?_
        refine G_goto 4 dX0_passDays_63 (by decide) ?_
        have ed : s_day f = (g4, 0) := by
          have q1 : f 1 = 1 := by rw [ef1, upd_n (by omega)] at c21; exact c21
          rw [s_day, if_pos q1, ← ef1, ← eg3, ← eg4]
        obtain ⟨k1, k2, -⟩ := day_ok ho hv
        rw [ed] at k1 k2
        exact lp_passDays hΩ d (c + 1) (D + 1) g4 x k1 k2 (by omega) (by omega) (by rw [hr, itr_s, s_days1]; dsimp only; rw [ed]; simp)
theorem c_passDays (hΩ : LV lp ap Ω) {q f : mj_S} {D n : Nat} (ho : oA f D) (hv : vt f) (hn : D + n < 2147483647) : MC l yX0_passDays wsX0_passDays rmX0_passDays false [.ref lp, .int (nI (n))] (Ω (row q f)) (some (.int (s_days n f).2)) (Ω (row q (s_days n f).1)) := by
  refine mj_MC (cc := cX0_passDays) (nl := 4) (ret := (some .int)) (plainFor_of_name (by decide)) rfl (⟨_, rfl, rfl⟩) (Nat.le_of_ble_eq_true rfl) ?_
  show GG l cX0_passDays MX0_passDays false (.inl ((some (.int (s_days n f).2)), Ω (row q (s_days n f).1))) 0 [some (.ref lp), some (.int (nI (n))), none, none] [] (Ω (row q f)) 0 0
  refine G_iconst (v := 0) dX0_passDays_0 (by decide) ?_
  refine G_istore_n dX0_passDays_1 rfl (L' := [some (.ref lp), some (.int (nI (n))), some (.int 0), none]) rfl ?_
  refine G_iconst (v := 0) dX0_passDays_2 (by decide) ?_
  refine G_istore_n dX0_passDays_3 rfl (L' := [some (.ref lp), some (.int (nI (n))), some (.int 0), some (.int 0)]) rfl ?_
  exact lp_passDays hΩ n 0 D f 0 ho hv (by omega) (by omega) rfl
theorem c_ofHearth_0 (hΩ : LV lp ap Ω) {q f : mj_S} {h : Nat} (hh : h < 5) : MC l yX0_ofHearth wsX0_ofHearth rmX0_ofHearth false [.ref lp, .int (nI (h)), .int 0] (Ω (row q f)) (some (.int (s_ofH f h 0))) (Ω (row q f)) := by
  refine mj_MC (cc := cX0_ofHearth) (nl := 3) (ret := (some .int)) (plainFor_of_name (by decide)) rfl (⟨_, rfl, rfl⟩) (Nat.le_of_ble_eq_true rfl) ?_
  show GG l cX0_ofHearth MX0_ofHearth false (.inl ((some (.int (s_ofH f h 0))), Ω (row q f))) 0 [some (.ref lp), some (.int (nI (h))), some (.int 0)] [] (Ω (row q f)) 0 0
  refine G_iload_n dX0_ofHearth_0 rfl ?_
  refine G_tabIn (off := 59) 60 dX0_ofHearth_1 (by decide) (by decide) (by decide) (by decide) ?_
  refine G_aload_n dX0_ofHearth_60 rfl ?_
  refine G_iconst (v := 5) dX0_ofHearth_61 (by decide) ?_
  refine G_iload_n dX0_ofHearth_62 rfl ?_
  refine G_iaddN (a := 5) (c := h) (s := 5 + h) dX0_ofHearth_63 (by omega) ?_
  refine G_callVi dX0_ofHearth_64 kX0_ofHearth_X0_at ⟨rfl, rfl⟩ ⟨Nat.zero_le _, Nat.zero_le _⟩ (c_atL hΩ (j := 5 + h) (by omega)) rfl rfl ((hΩ _).1) rfl rfl ?_
  exact G_iret dX0_ofHearth_67 ⟨Nat.zero_le _, Nat.zero_le _⟩ (rfl)
theorem c_ofHearth_1 (hΩ : LV lp ap Ω) {q f : mj_S} {h : Nat} (hh : h < 5) : MC l yX0_ofHearth wsX0_ofHearth rmX0_ofHearth false [.ref lp, .int (nI (h)), .int 1] (Ω (row q f)) (some (.int (s_ofH f h 1))) (Ω (row q f)) := by
  refine mj_MC (cc := cX0_ofHearth) (nl := 3) (ret := (some .int)) (plainFor_of_name (by decide)) rfl (⟨_, rfl, rfl⟩) (Nat.le_of_ble_eq_true rfl) ?_
  show GG l cX0_ofHearth MX0_ofHearth false (.inl ((some (.int (s_ofH f h 1))), Ω (row q f))) 0 [some (.ref lp), some (.int (nI (h))), some (.int 1)] [] (Ω (row q f)) 0 0
  refine G_iload_n dX0_ofHearth_0 rfl ?_
  refine G_tabIn (off := 67) 68 dX0_ofHearth_1 (by decide) (by decide) (by decide) (by decide) ?_
  refine G_aload_n dX0_ofHearth_68 rfl ?_
  refine G_bipush (v := 10) dX0_ofHearth_69 (by decide) ?_
  refine G_iload_n dX0_ofHearth_71 rfl ?_
  refine G_iaddN (a := 10) (c := h) (s := 10 + h) dX0_ofHearth_72 (by omega) ?_
  refine G_callVi dX0_ofHearth_73 kX0_ofHearth_X0_at ⟨rfl, rfl⟩ ⟨Nat.zero_le _, Nat.zero_le _⟩ (c_atL hΩ (j := 10 + h) (by omega)) rfl rfl ((hΩ _).1) rfl rfl ?_
  exact G_iret dX0_ofHearth_76 ⟨Nat.zero_le _, Nat.zero_le _⟩ (rfl)
theorem c_ofHearth_2 (hΩ : LV lp ap Ω) {q f : mj_S} {h : Nat} (hh : h < 5) : MC l yX0_ofHearth wsX0_ofHearth rmX0_ofHearth false [.ref lp, .int (nI (h)), .int 2] (Ω (row q f)) (some (.int (s_ofH f h 2))) (Ω (row q f)) := by
  refine mj_MC (cc := cX0_ofHearth) (nl := 3) (ret := (some .int)) (plainFor_of_name (by decide)) rfl (⟨_, rfl, rfl⟩) (Nat.le_of_ble_eq_true rfl) ?_
  show GG l cX0_ofHearth MX0_ofHearth false (.inl ((some (.int (s_ofH f h 2))), Ω (row q f))) 0 [some (.ref lp), some (.int (nI (h))), some (.int 2)] [] (Ω (row q f)) 0 0
  refine G_iload_n dX0_ofHearth_0 rfl ?_
  refine G_tabIn (off := 76) 77 dX0_ofHearth_1 (by decide) (by decide) (by decide) (by decide) ?_
  refine G_aload_n dX0_ofHearth_77 rfl ?_
  refine G_bipush (v := 15) dX0_ofHearth_78 (by decide) ?_
  refine G_iload_n dX0_ofHearth_80 rfl ?_
  refine G_iaddN (a := 15) (c := h) (s := 15 + h) dX0_ofHearth_81 (by omega) ?_
  refine G_callVi dX0_ofHearth_82 kX0_ofHearth_X0_at ⟨rfl, rfl⟩ ⟨Nat.zero_le _, Nat.zero_le _⟩ (c_atL hΩ (j := 15 + h) (by omega)) rfl rfl ((hΩ _).1) rfl rfl ?_
  exact G_iret dX0_ofHearth_85 ⟨Nat.zero_le _, Nat.zero_le _⟩ (rfl)
theorem c_ofHearth_3 (hΩ : LV lp ap Ω) {q f : mj_S} {h : Nat} (hh : h < 5) : MC l yX0_ofHearth wsX0_ofHearth rmX0_ofHearth false [.ref lp, .int (nI (h)), .int 3] (Ω (row q f)) (some (.int (s_ofH f h 3))) (Ω (row q f)) := by
  refine mj_MC (cc := cX0_ofHearth) (nl := 3) (ret := (some .int)) (plainFor_of_name (by decide)) rfl (⟨_, rfl, rfl⟩) (Nat.le_of_ble_eq_true rfl) ?_
  show GG l cX0_ofHearth MX0_ofHearth false (.inl ((some (.int (s_ofH f h 3))), Ω (row q f))) 0 [some (.ref lp), some (.int (nI (h))), some (.int 3)] [] (Ω (row q f)) 0 0
  refine G_iload_n dX0_ofHearth_0 rfl ?_
  refine G_tabIn (off := 85) 86 dX0_ofHearth_1 (by decide) (by decide) (by decide) (by decide) ?_
  refine G_aload_n dX0_ofHearth_86 rfl ?_
  refine G_iload_n dX0_ofHearth_87 rfl ?_
  refine G_iconst (v := 0) dX0_ofHearth_88 (by decide) ?_
  refine G_callSi dX0_ofHearth_89 kX0_ofHearth_X0_plotOf ⟨rfl, rfl⟩ ⟨Nat.zero_le _, Nat.zero_le _⟩ (c_plotOfN (h := h) (b := 0) (s := 4 * h) (by omega)) rfl rfl rfl ?_
  refine G_iconst (v := 1) dX0_ofHearth_92 (by decide) ?_
  refine G_iconst (v := 4) dX0_ofHearth_93 (by decide) ?_
  refine G_callVi dX0_ofHearth_94 kX0_ofHearth_X0_turvesOn ⟨rfl, rfl⟩ ⟨Nat.zero_le _, Nat.zero_le _⟩ (c_tvH hΩ (h := h) (by omega)) rfl rfl ((hΩ _).1) rfl rfl ?_
  exact G_iret dX0_ofHearth_97 ⟨Nat.zero_le _, Nat.zero_le _⟩ (rfl)
theorem c_ofHearth_4 (hΩ : LV lp ap Ω) {q f : mj_S} {h : Nat} (hh : h < 5) : MC l yX0_ofHearth wsX0_ofHearth rmX0_ofHearth false [.ref lp, .int (nI (h)), .int 4] (Ω (row q f)) (some (.int (s_ofH f h 4))) (Ω (row q f)) := by
  refine mj_MC (cc := cX0_ofHearth) (nl := 3) (ret := (some .int)) (plainFor_of_name (by decide)) rfl (⟨_, rfl, rfl⟩) (Nat.le_of_ble_eq_true rfl) ?_
  show GG l cX0_ofHearth MX0_ofHearth false (.inl ((some (.int (s_ofH f h 4))), Ω (row q f))) 0 [some (.ref lp), some (.int (nI (h))), some (.int 4)] [] (Ω (row q f)) 0 0
  refine G_iload_n dX0_ofHearth_0 rfl ?_
  refine G_tabIn (off := 97) 98 dX0_ofHearth_1 (by decide) (by decide) (by decide) (by decide) ?_
  refine G_aload_n dX0_ofHearth_98 rfl ?_
  refine G_iload_n dX0_ofHearth_99 rfl ?_
  refine G_callVi dX0_ofHearth_100 kX0_ofHearth_X0_shortBy ⟨rfl, rfl⟩ ⟨Nat.zero_le _, Nat.zero_le _⟩ (c_shortBy hΩ (h := h) (by omega)) rfl rfl ((hΩ _).1) rfl rfl ?_
  exact G_iret dX0_ofHearth_103 ⟨Nat.zero_le _, Nat.zero_le _⟩ (rfl)
theorem c_ofHearth_5 (hΩ : LV lp ap Ω) {q f : mj_S} {h : Nat} (hh : h < 5) : MC l yX0_ofHearth wsX0_ofHearth rmX0_ofHearth false [.ref lp, .int (nI (h)), .int 5] (Ω (row q f)) (some (.int (s_ofH f h 5))) (Ω (row q f)) := by
  refine mj_MC (cc := cX0_ofHearth) (nl := 3) (ret := (some .int)) (plainFor_of_name (by decide)) rfl (⟨_, rfl, rfl⟩) (Nat.le_of_ble_eq_true rfl) ?_
  show GG l cX0_ofHearth MX0_ofHearth false (.inl ((some (.int (s_ofH f h 5))), Ω (row q f))) 0 [some (.ref lp), some (.int (nI (h))), some (.int 5)] [] (Ω (row q f)) 0 0
  refine G_iload_n dX0_ofHearth_0 rfl ?_
  refine G_tabIn (off := 103) 104 dX0_ofHearth_1 (by decide) (by decide) (by decide) (by decide) ?_
  refine G_aload_n dX0_ofHearth_104 rfl ?_
  refine G_iload_n dX0_ofHearth_105 rfl ?_
  refine G_callVi dX0_ofHearth_106 kX0_ofHearth_X0_willBeShortBy ⟨rfl, rfl⟩ ⟨Nat.zero_le _, Nat.zero_le _⟩ (c_willBeShortBy hΩ (h := h) (by omega)) rfl rfl ((hΩ _).1) rfl rfl ?_
  exact G_iret dX0_ofHearth_109 ⟨Nat.zero_le _, Nat.zero_le _⟩ (rfl)
theorem c_ofHearth_6 (hΩ : LV lp ap Ω) {q f : mj_S} {h : Nat} (hh : h < 5) : MC l yX0_ofHearth wsX0_ofHearth rmX0_ofHearth false [.ref lp, .int (nI (h)), .int 6] (Ω (row q f)) (some (.int (s_ofH f h 6))) (Ω (row q f)) := by
  refine mj_MC (cc := cX0_ofHearth) (nl := 3) (ret := (some .int)) (plainFor_of_name (by decide)) rfl (⟨_, rfl, rfl⟩) (Nat.le_of_ble_eq_true rfl) ?_
  show GG l cX0_ofHearth MX0_ofHearth false (.inl ((some (.int (s_ofH f h 6))), Ω (row q f))) 0 [some (.ref lp), some (.int (nI (h))), some (.int 6)] [] (Ω (row q f)) 0 0
  refine G_iload_n dX0_ofHearth_0 rfl ?_
  refine G_tabIn (off := 109) 110 dX0_ofHearth_1 (by decide) (by decide) (by decide) (by decide) ?_
  refine G_aload_n dX0_ofHearth_110 rfl ?_
  refine G_iload_n dX0_ofHearth_111 rfl ?_
  refine G_callVi dX0_ofHearth_112 kX0_ofHearth_X0_willBeShortByTheBook ⟨rfl, rfl⟩ ⟨Nat.zero_le _, Nat.zero_le _⟩ (c_willBeShortByTheBook hΩ (h := h) (by omega)) rfl rfl ((hΩ _).1) rfl rfl ?_
  exact G_iret dX0_ofHearth_115 ⟨Nat.zero_le _, Nat.zero_le _⟩ (rfl)
theorem c_ofHearth_7 (hΩ : LV lp ap Ω) {q f : mj_S} {h : Nat} (hh : h < 5) : MC l yX0_ofHearth wsX0_ofHearth rmX0_ofHearth false [.ref lp, .int (nI (h)), .int 7] (Ω (row q f)) (some (.int (s_ofH f h 7))) (Ω (row q f)) := by
  refine mj_MC (cc := cX0_ofHearth) (nl := 3) (ret := (some .int)) (plainFor_of_name (by decide)) rfl (⟨_, rfl, rfl⟩) (Nat.le_of_ble_eq_true rfl) ?_
  show GG l cX0_ofHearth MX0_ofHearth false (.inl ((some (.int (s_ofH f h 7))), Ω (row q f))) 0 [some (.ref lp), some (.int (nI (h))), some (.int 7)] [] (Ω (row q f)) 0 0
  refine G_iload_n dX0_ofHearth_0 rfl ?_
  refine G_tabIn (off := 115) 116 dX0_ofHearth_1 (by decide) (by decide) (by decide) (by decide) ?_
  refine G_aload_n dX0_ofHearth_116 rfl ?_
  refine G_bipush (v := 20) dX0_ofHearth_117 (by decide) ?_
  refine G_iload_n dX0_ofHearth_119 rfl ?_
  refine G_iaddN (a := 20) (c := h) (s := 20 + h) dX0_ofHearth_120 (by omega) ?_
  refine G_callVi dX0_ofHearth_121 kX0_ofHearth_X0_at ⟨rfl, rfl⟩ ⟨Nat.zero_le _, Nat.zero_le _⟩ (c_atL hΩ (j := 20 + h) (by omega)) rfl rfl ((hΩ _).1) rfl rfl ?_
  exact G_iret dX0_ofHearth_124 ⟨Nat.zero_le _, Nat.zero_le _⟩ (rfl)
theorem c_ofHearth_8 (hΩ : LV lp ap Ω) {q f : mj_S} {h : Nat} (hh : h < 5) : MC l yX0_ofHearth wsX0_ofHearth rmX0_ofHearth false [.ref lp, .int (nI (h)), .int 8] (Ω (row q f)) (some (.int (s_ofH f h 8))) (Ω (row q f)) := by
  refine mj_MC (cc := cX0_ofHearth) (nl := 3) (ret := (some .int)) (plainFor_of_name (by decide)) rfl (⟨_, rfl, rfl⟩) (Nat.le_of_ble_eq_true rfl) ?_
  show GG l cX0_ofHearth MX0_ofHearth false (.inl ((some (.int (s_ofH f h 8))), Ω (row q f))) 0 [some (.ref lp), some (.int (nI (h))), some (.int 8)] [] (Ω (row q f)) 0 0
  refine G_iload_n dX0_ofHearth_0 rfl ?_
  refine G_tabIn (off := 124) 125 dX0_ofHearth_1 (by decide) (by decide) (by decide) (by decide) ?_
  refine G_aload_n dX0_ofHearth_125 rfl ?_
  refine G_bipush (v := 25) dX0_ofHearth_126 (by decide) ?_
  refine G_iload_n dX0_ofHearth_128 rfl ?_
  refine G_iaddN (a := 25) (c := h) (s := 25 + h) dX0_ofHearth_129 (by omega) ?_
  refine G_callVi dX0_ofHearth_130 kX0_ofHearth_X0_at ⟨rfl, rfl⟩ ⟨Nat.zero_le _, Nat.zero_le _⟩ (c_atL hΩ (j := 25 + h) (by omega)) rfl rfl ((hΩ _).1) rfl rfl ?_
  exact G_iret dX0_ofHearth_133 ⟨Nat.zero_le _, Nat.zero_le _⟩ (rfl)
theorem c_ofHearth_9 (hΩ : LV lp ap Ω) {q f : mj_S} {h : Nat} (hh : h < 5) : MC l yX0_ofHearth wsX0_ofHearth rmX0_ofHearth false [.ref lp, .int (nI (h)), .int 9] (Ω (row q f)) (some (.int (s_ofH f h 9))) (Ω (row q f)) := by
  refine mj_MC (cc := cX0_ofHearth) (nl := 3) (ret := (some .int)) (plainFor_of_name (by decide)) rfl (⟨_, rfl, rfl⟩) (Nat.le_of_ble_eq_true rfl) ?_
  show GG l cX0_ofHearth MX0_ofHearth false (.inl ((some (.int (s_ofH f h 9))), Ω (row q f))) 0 [some (.ref lp), some (.int (nI (h))), some (.int 9)] [] (Ω (row q f)) 0 0
  refine G_iload_n dX0_ofHearth_0 rfl ?_
  refine G_tabIn (off := 133) 134 dX0_ofHearth_1 (by decide) (by decide) (by decide) (by decide) ?_
  refine G_aload_n dX0_ofHearth_134 rfl ?_
  refine G_bipush (v := 30) dX0_ofHearth_135 (by decide) ?_
  refine G_iload_n dX0_ofHearth_137 rfl ?_
  refine G_iaddN (a := 30) (c := h) (s := 30 + h) dX0_ofHearth_138 (by omega) ?_
  refine G_callVi dX0_ofHearth_139 kX0_ofHearth_X0_at ⟨rfl, rfl⟩ ⟨Nat.zero_le _, Nat.zero_le _⟩ (c_atL hΩ (j := 30 + h) (by omega)) rfl rfl ((hΩ _).1) rfl rfl ?_
  exact G_iret dX0_ofHearth_142 ⟨Nat.zero_le _, Nat.zero_le _⟩ (rfl)
theorem c_ofHearth_10 (hΩ : LV lp ap Ω) {q f : mj_S} {h : Nat} (hh : h < 5) : MC l yX0_ofHearth wsX0_ofHearth rmX0_ofHearth false [.ref lp, .int (nI (h)), .int 10] (Ω (row q f)) (some (.int (s_ofH f h 10))) (Ω (row q f)) := by
  refine mj_MC (cc := cX0_ofHearth) (nl := 3) (ret := (some .int)) (plainFor_of_name (by decide)) rfl (⟨_, rfl, rfl⟩) (Nat.le_of_ble_eq_true rfl) ?_
  show GG l cX0_ofHearth MX0_ofHearth false (.inl ((some (.int (s_ofH f h 10))), Ω (row q f))) 0 [some (.ref lp), some (.int (nI (h))), some (.int 10)] [] (Ω (row q f)) 0 0
  refine G_iload_n dX0_ofHearth_0 rfl ?_
  refine G_tabIn (off := 142) 143 dX0_ofHearth_1 (by decide) (by decide) (by decide) (by decide) ?_
  refine G_aload_n dX0_ofHearth_143 rfl ?_
  refine G_bipush (v := 35) dX0_ofHearth_144 (by decide) ?_
  refine G_iload_n dX0_ofHearth_146 rfl ?_
  refine G_iaddN (a := 35) (c := h) (s := 35 + h) dX0_ofHearth_147 (by omega) ?_
  refine G_callVi dX0_ofHearth_148 kX0_ofHearth_X0_at ⟨rfl, rfl⟩ ⟨Nat.zero_le _, Nat.zero_le _⟩ (c_atL hΩ (j := 35 + h) (by omega)) rfl rfl ((hΩ _).1) rfl rfl ?_
  exact G_iret dX0_ofHearth_151 ⟨Nat.zero_le _, Nat.zero_le _⟩ (rfl)
theorem c_ofHearth_11 (hΩ : LV lp ap Ω) {q f : mj_S} {h : Nat} (hh : h < 5) : MC l yX0_ofHearth wsX0_ofHearth rmX0_ofHearth false [.ref lp, .int (nI (h)), .int 11] (Ω (row q f)) (some (.int (s_ofH f h 11))) (Ω (row q f)) := by
  refine mj_MC (cc := cX0_ofHearth) (nl := 3) (ret := (some .int)) (plainFor_of_name (by decide)) rfl (⟨_, rfl, rfl⟩) (Nat.le_of_ble_eq_true rfl) ?_
  show GG l cX0_ofHearth MX0_ofHearth false (.inl ((some (.int (s_ofH f h 11))), Ω (row q f))) 0 [some (.ref lp), some (.int (nI (h))), some (.int 11)] [] (Ω (row q f)) 0 0
  refine G_iload_n dX0_ofHearth_0 rfl ?_
  refine G_tabOut 152 dX0_ofHearth_1 (by decide) (by decide) ?_
  refine G_aload_n dX0_ofHearth_152 rfl ?_
  refine G_bipush (v := 40) dX0_ofHearth_153 (by decide) ?_
  refine G_iload_n dX0_ofHearth_155 rfl ?_
  refine G_iaddN (a := 40) (c := h) (s := 40 + h) dX0_ofHearth_156 (by omega) ?_
  refine G_callVi dX0_ofHearth_157 kX0_ofHearth_X0_at ⟨rfl, rfl⟩ ⟨Nat.zero_le _, Nat.zero_le _⟩ (c_atL hΩ (j := 40 + h) (by omega)) rfl rfl ((hΩ _).1) rfl rfl ?_
  exact G_iret dX0_ofHearth_160 ⟨Nat.zero_le _, Nat.zero_le _⟩ (rfl)
theorem c_ofHearth (hΩ : LV lp ap Ω) {q f : mj_S} {h : Nat} (hh : h < 5) {w : Nat} (hw : w < 12) : MC l yX0_ofHearth wsX0_ofHearth rmX0_ofHearth false [.ref lp, .int (nI (h)), .int (nI (w))] (Ω (row q f)) (some (.int (s_ofH f h w))) (Ω (row q f)) := by
  rcases (show w = 0 ∨ w = 1 ∨ w = 2 ∨ w = 3 ∨ w = 4 ∨ w = 5 ∨ w = 6 ∨ w = 7 ∨ w = 8 ∨ w = 9 ∨ w = 10 ∨ w = 11 by omega) with rfl | rfl | rfl | rfl | rfl | rfl | rfl | rfl | rfl | rfl | rfl | rfl
  · exact c_ofHearth_0 hΩ hh
  · exact c_ofHearth_1 hΩ hh
  · exact c_ofHearth_2 hΩ hh
  · exact c_ofHearth_3 hΩ hh
  · exact c_ofHearth_4 hΩ hh
  · exact c_ofHearth_5 hΩ hh
  · exact c_ofHearth_6 hΩ hh
  · exact c_ofHearth_7 hΩ hh
  · exact c_ofHearth_8 hΩ hh
  · exact c_ofHearth_9 hΩ hh
  · exact c_ofHearth_10 hΩ hh
  · exact c_ofHearth_11 hΩ hh
theorem c_ofBank_0 (hΩ : LV lp ap Ω) {q f : mj_S} {b : Nat} (hb : b < 4) : MC l yX0_ofBank wsX0_ofBank rmX0_ofBank false [.ref lp, .int (nI (b)), .int 0] (Ω (row q f)) (some (.int (s_ofB q f b 0))) (Ω (row q f)) := by
  refine mj_MC (cc := cX0_ofBank) (nl := 3) (ret := (some .int)) (plainFor_of_name (by decide)) rfl (⟨_, rfl, rfl⟩) (Nat.le_of_ble_eq_true rfl) ?_
  show GG l cX0_ofBank MX0_ofBank false (.inl ((some (.int (s_ofB q f b 0))), Ω (row q f))) 0 [some (.ref lp), some (.int (nI (b))), some (.int 0)] [] (Ω (row q f)) 0 0
  refine G_iload_n dX0_ofBank_0 rfl ?_
  refine G_tabIn (off := 31) 32 dX0_ofBank_1 (by decide) (by decide) (by decide) (by decide) ?_
  refine G_aload_n dX0_ofBank_32 rfl ?_
  refine G_bipush (v := 45) dX0_ofBank_33 (by decide) ?_
  refine G_iload_n dX0_ofBank_35 rfl ?_
  refine G_iaddN (a := 45) (c := b) (s := 45 + b) dX0_ofBank_36 (by omega) ?_
  refine G_callVi dX0_ofBank_37 kX0_ofBank_X0_at ⟨rfl, rfl⟩ ⟨Nat.zero_le _, Nat.zero_le _⟩ (c_atL hΩ (j := 45 + b) (by omega)) rfl rfl ((hΩ _).1) rfl rfl ?_
  exact G_iret dX0_ofBank_40 ⟨Nat.zero_le _, Nat.zero_le _⟩ (rfl)
theorem c_ofBank_1 (hΩ : LV lp ap Ω) {q f : mj_S} {b : Nat} (hb : b < 4) : MC l yX0_ofBank wsX0_ofBank rmX0_ofBank false [.ref lp, .int (nI (b)), .int 1] (Ω (row q f)) (some (.int (s_ofB q f b 1))) (Ω (row q f)) := by
  refine mj_MC (cc := cX0_ofBank) (nl := 3) (ret := (some .int)) (plainFor_of_name (by decide)) rfl (⟨_, rfl, rfl⟩) (Nat.le_of_ble_eq_true rfl) ?_
  show GG l cX0_ofBank MX0_ofBank false (.inl ((some (.int (s_ofB q f b 1))), Ω (row q f))) 0 [some (.ref lp), some (.int (nI (b))), some (.int 1)] [] (Ω (row q f)) 0 0
  refine G_iload_n dX0_ofBank_0 rfl ?_
  refine G_tabIn (off := 40) 41 dX0_ofBank_1 (by decide) (by decide) (by decide) (by decide) ?_
  refine G_aload_n dX0_ofBank_41 rfl ?_
  refine G_bipush (v := 49) dX0_ofBank_42 (by decide) ?_
  refine G_iload_n dX0_ofBank_44 rfl ?_
  refine G_iaddN (a := 49) (c := b) (s := 49 + b) dX0_ofBank_45 (by omega) ?_
  refine G_callVi dX0_ofBank_46 kX0_ofBank_X0_at ⟨rfl, rfl⟩ ⟨Nat.zero_le _, Nat.zero_le _⟩ (c_atL hΩ (j := 49 + b) (by omega)) rfl rfl ((hΩ _).1) rfl rfl ?_
  exact G_iret dX0_ofBank_49 ⟨Nat.zero_le _, Nat.zero_le _⟩ (rfl)
theorem c_ofBank_2 (hΩ : LV lp ap Ω) {q f : mj_S} {b : Nat} (hb : b < 4) : MC l yX0_ofBank wsX0_ofBank rmX0_ofBank false [.ref lp, .int (nI (b)), .int 2] (Ω (row q f)) (some (.int (s_ofB q f b 2))) (Ω (row q f)) := by
  refine mj_MC (cc := cX0_ofBank) (nl := 3) (ret := (some .int)) (plainFor_of_name (by decide)) rfl (⟨_, rfl, rfl⟩) (Nat.le_of_ble_eq_true rfl) ?_
  show GG l cX0_ofBank MX0_ofBank false (.inl ((some (.int (s_ofB q f b 2))), Ω (row q f))) 0 [some (.ref lp), some (.int (nI (b))), some (.int 2)] [] (Ω (row q f)) 0 0
  refine G_iload_n dX0_ofBank_0 rfl ?_
  refine G_tabIn (off := 49) 50 dX0_ofBank_1 (by decide) (by decide) (by decide) (by decide) ?_
  refine G_aload_n dX0_ofBank_50 rfl ?_
  refine G_bipush (v := 53) dX0_ofBank_51 (by decide) ?_
  refine G_iload_n dX0_ofBank_53 rfl ?_
  refine G_iaddN (a := 53) (c := b) (s := 53 + b) dX0_ofBank_54 (by omega) ?_
  refine G_callVi dX0_ofBank_55 kX0_ofBank_X0_at ⟨rfl, rfl⟩ ⟨Nat.zero_le _, Nat.zero_le _⟩ (c_atQ hΩ (j := 53 + b) (i := b) (by omega) (by omega)) rfl rfl ((hΩ _).1) rfl rfl ?_
  exact G_iret dX0_ofBank_58 ⟨Nat.zero_le _, Nat.zero_le _⟩ (rfl)
theorem c_ofBank_3 (hΩ : LV lp ap Ω) {q f : mj_S} {b : Nat} (hb : b < 4) : MC l yX0_ofBank wsX0_ofBank rmX0_ofBank false [.ref lp, .int (nI (b)), .int 3] (Ω (row q f)) (some (.int (s_ofB q f b 3))) (Ω (row q f)) := by
  refine mj_MC (cc := cX0_ofBank) (nl := 3) (ret := (some .int)) (plainFor_of_name (by decide)) rfl (⟨_, rfl, rfl⟩) (Nat.le_of_ble_eq_true rfl) ?_
  show GG l cX0_ofBank MX0_ofBank false (.inl ((some (.int (s_ofB q f b 3))), Ω (row q f))) 0 [some (.ref lp), some (.int (nI (b))), some (.int 3)] [] (Ω (row q f)) 0 0
  refine G_iload_n dX0_ofBank_0 rfl ?_
  refine G_tabIn (off := 58) 59 dX0_ofBank_1 (by decide) (by decide) (by decide) (by decide) ?_
  refine G_aload_n dX0_ofBank_59 rfl ?_
  refine G_iload_n dX0_ofBank_60 rfl ?_
  refine G_callVi dX0_ofBank_61 kX0_ofBank_X0_cuttersOnBank ⟨rfl, rfl⟩ ⟨Nat.zero_le _, Nat.zero_le _⟩ (c_cuttersOnBank hΩ) rfl rfl ((hΩ _).1) rfl rfl ?_
  exact G_iret dX0_ofBank_64 ⟨Nat.zero_le _, Nat.zero_le _⟩ (rfl)
theorem c_ofBank_4 (hΩ : LV lp ap Ω) {q f : mj_S} {b : Nat} (hb : b < 4) : MC l yX0_ofBank wsX0_ofBank rmX0_ofBank false [.ref lp, .int (nI (b)), .int 4] (Ω (row q f)) (some (.int (s_ofB q f b 4))) (Ω (row q f)) := by
  refine mj_MC (cc := cX0_ofBank) (nl := 3) (ret := (some .int)) (plainFor_of_name (by decide)) rfl (⟨_, rfl, rfl⟩) (Nat.le_of_ble_eq_true rfl) ?_
  show GG l cX0_ofBank MX0_ofBank false (.inl ((some (.int (s_ofB q f b 4))), Ω (row q f))) 0 [some (.ref lp), some (.int (nI (b))), some (.int 4)] [] (Ω (row q f)) 0 0
  refine G_iload_n dX0_ofBank_0 rfl ?_
  refine G_tabOut 65 dX0_ofBank_1 (by decide) (by decide) ?_
  refine G_aload_n dX0_ofBank_65 rfl ?_
  refine G_iconst (v := 0) dX0_ofBank_66 (by decide) ?_
  refine G_iload_n dX0_ofBank_67 rfl ?_
  refine G_callSi dX0_ofBank_68 kX0_ofBank_X0_plotOf ⟨rfl, rfl⟩ ⟨Nat.zero_le _, Nat.zero_le _⟩ (c_plotOfN (h := 0) (b := b) (s := b) (by omega)) rfl rfl rfl ?_
  refine G_iconst (v := 4) dX0_ofBank_71 (by decide) ?_
  refine G_iconst (v := 5) dX0_ofBank_72 (by decide) ?_
  refine G_callVi dX0_ofBank_73 kX0_ofBank_X0_turvesOn ⟨rfl, rfl⟩ ⟨Nat.zero_le _, Nat.zero_le _⟩ (c_tvB hΩ (b := b) (by omega)) rfl rfl ((hΩ _).1) rfl rfl ?_
  exact G_iret dX0_ofBank_76 ⟨Nat.zero_le _, Nat.zero_le _⟩ (rfl)
theorem c_ofBank (hΩ : LV lp ap Ω) {q f : mj_S} {b : Nat} (hb : b < 4) {w : Nat} (hw : w < 5) : MC l yX0_ofBank wsX0_ofBank rmX0_ofBank false [.ref lp, .int (nI (b)), .int (nI (w))] (Ω (row q f)) (some (.int (s_ofB q f b w))) (Ω (row q f)) := by
  rcases (show w = 0 ∨ w = 1 ∨ w = 2 ∨ w = 3 ∨ w = 4 by omega) with rfl | rfl | rfl | rfl | rfl
  · exact c_ofBank_0 hΩ hb
  · exact c_ofBank_1 hΩ hb
  · exact c_ofBank_2 hΩ hb
  · exact c_ofBank_3 hΩ hb
  · exact c_ofBank_4 hΩ hb
theorem c_ofPlot_0 (hΩ : LV lp ap Ω) {q f : mj_S} {h b : Nat} (hh : h < 5) (hb : b < 4) : MC l yX0_ofPlot wsX0_ofPlot rmX0_ofPlot false [.ref lp, .int (nI (h)), .int (nI (b)), .int 0] (Ω (row q f)) (some (.int (s_ofP f h b 0))) (Ω (row q f)) := by
  refine mj_MC (cc := cX0_ofPlot) (nl := 5) (ret := (some .int)) (plainFor_of_name (by decide)) rfl (⟨_, rfl, rfl⟩) (Nat.le_of_ble_eq_true rfl) ?_
  show GG l cX0_ofPlot MX0_ofPlot false (.inl ((some (.int (s_ofP f h b 0))), Ω (row q f))) 0 [some (.ref lp), some (.int (nI (h))), some (.int (nI (b))), some (.int 0), none] [] (Ω (row q f)) 0 0
  refine G_iload_n dX0_ofPlot_0 rfl ?_
  refine G_iload_n dX0_ofPlot_1 rfl ?_
  refine G_callSi dX0_ofPlot_2 kX0_ofPlot_X0_plotOf ⟨rfl, rfl⟩ ⟨Nat.zero_le _, Nat.zero_le _⟩ (c_plotOfN (h := h) (b := b) (s := b + 4 * h) (by omega)) rfl rfl rfl ?_
  refine G_istore dX0_ofPlot_5 rfl (L' := [some (.ref lp), some (.int (nI (h))), some (.int (nI (b))), some (.int 0), some (.int (nI (b + 4 * h)))]) rfl ?_
  refine G_iload_n dX0_ofPlot_7 rfl ?_
  refine G_tabIn (off := 32) 40 dX0_ofPlot_8 (by decide) (by decide) (by decide) (by decide) ?_
  refine G_aload_n dX0_ofPlot_40 rfl ?_
  refine G_bipush (v := 57) dX0_ofPlot_41 (by decide) ?_
  refine G_iload dX0_ofPlot_43 rfl ?_
  refine G_iaddN (a := 57) (c := b + 4 * h) (s := 57 + b + 4 * h) dX0_ofPlot_45 (by omega) ?_
  refine G_callVi dX0_ofPlot_46 kX0_ofPlot_X0_at ⟨rfl, rfl⟩ ⟨Nat.zero_le _, Nat.zero_le _⟩ (c_atH hΩ (j := 57 + b + 4 * h) (j' := 53 + b + 4 * h) (by omega) (by omega)) rfl rfl ((hΩ _).1) rfl rfl ?_
  exact G_iret dX0_ofPlot_49 ⟨Nat.zero_le _, Nat.zero_le _⟩ (rfl)
theorem c_ofPlot_1 (hΩ : LV lp ap Ω) {q f : mj_S} {h b : Nat} (hh : h < 5) (hb : b < 4) : MC l yX0_ofPlot wsX0_ofPlot rmX0_ofPlot false [.ref lp, .int (nI (h)), .int (nI (b)), .int 1] (Ω (row q f)) (some (.int (s_ofP f h b 1))) (Ω (row q f)) := by
  refine mj_MC (cc := cX0_ofPlot) (nl := 5) (ret := (some .int)) (plainFor_of_name (by decide)) rfl (⟨_, rfl, rfl⟩) (Nat.le_of_ble_eq_true rfl) ?_
  show GG l cX0_ofPlot MX0_ofPlot false (.inl ((some (.int (s_ofP f h b 1))), Ω (row q f))) 0 [some (.ref lp), some (.int (nI (h))), some (.int (nI (b))), some (.int 1), none] [] (Ω (row q f)) 0 0
  refine G_iload_n dX0_ofPlot_0 rfl ?_
  refine G_iload_n dX0_ofPlot_1 rfl ?_
  refine G_callSi dX0_ofPlot_2 kX0_ofPlot_X0_plotOf ⟨rfl, rfl⟩ ⟨Nat.zero_le _, Nat.zero_le _⟩ (c_plotOfN (h := h) (b := b) (s := b + 4 * h) (by omega)) rfl rfl rfl ?_
  refine G_istore dX0_ofPlot_5 rfl (L' := [some (.ref lp), some (.int (nI (h))), some (.int (nI (b))), some (.int 1), some (.int (nI (b + 4 * h)))]) rfl ?_
  refine G_iload_n dX0_ofPlot_7 rfl ?_
  refine G_tabIn (off := 42) 50 dX0_ofPlot_8 (by decide) (by decide) (by decide) (by decide) ?_
  refine G_aload_n dX0_ofPlot_50 rfl ?_
  refine G_bipush (v := 77) dX0_ofPlot_51 (by decide) ?_
  refine G_iload dX0_ofPlot_53 rfl ?_
  refine G_iaddN (a := 77) (c := b + 4 * h) (s := 77 + b + 4 * h) dX0_ofPlot_55 (by omega) ?_
  refine G_callVi dX0_ofPlot_56 kX0_ofPlot_X0_at ⟨rfl, rfl⟩ ⟨Nat.zero_le _, Nat.zero_le _⟩ (c_atH hΩ (j := 77 + b + 4 * h) (j' := 73 + b + 4 * h) (by omega) (by omega)) rfl rfl ((hΩ _).1) rfl rfl ?_
  exact G_iret dX0_ofPlot_59 ⟨Nat.zero_le _, Nat.zero_le _⟩ (rfl)
theorem c_ofPlot_2 (hΩ : LV lp ap Ω) {q f : mj_S} {h b : Nat} (hh : h < 5) (hb : b < 4) : MC l yX0_ofPlot wsX0_ofPlot rmX0_ofPlot false [.ref lp, .int (nI (h)), .int (nI (b)), .int 2] (Ω (row q f)) (some (.int (s_ofP f h b 2))) (Ω (row q f)) := by
  refine mj_MC (cc := cX0_ofPlot) (nl := 5) (ret := (some .int)) (plainFor_of_name (by decide)) rfl (⟨_, rfl, rfl⟩) (Nat.le_of_ble_eq_true rfl) ?_
  show GG l cX0_ofPlot MX0_ofPlot false (.inl ((some (.int (s_ofP f h b 2))), Ω (row q f))) 0 [some (.ref lp), some (.int (nI (h))), some (.int (nI (b))), some (.int 2), none] [] (Ω (row q f)) 0 0
  refine G_iload_n dX0_ofPlot_0 rfl ?_
  refine G_iload_n dX0_ofPlot_1 rfl ?_
  refine G_callSi dX0_ofPlot_2 kX0_ofPlot_X0_plotOf ⟨rfl, rfl⟩ ⟨Nat.zero_le _, Nat.zero_le _⟩ (c_plotOfN (h := h) (b := b) (s := b + 4 * h) (by omega)) rfl rfl rfl ?_
  refine G_istore dX0_ofPlot_5 rfl (L' := [some (.ref lp), some (.int (nI (h))), some (.int (nI (b))), some (.int 2), some (.int (nI (b + 4 * h)))]) rfl ?_
  refine G_iload_n dX0_ofPlot_7 rfl ?_
  refine G_tabIn (off := 52) 60 dX0_ofPlot_8 (by decide) (by decide) (by decide) (by decide) ?_
  refine G_aload_n dX0_ofPlot_60 rfl ?_
  refine G_bipush (v := 97) dX0_ofPlot_61 (by decide) ?_
  refine G_iload dX0_ofPlot_63 rfl ?_
  refine G_iaddN (a := 97) (c := b + 4 * h) (s := 97 + b + 4 * h) dX0_ofPlot_65 (by omega) ?_
  refine G_callVi dX0_ofPlot_66 kX0_ofPlot_X0_at ⟨rfl, rfl⟩ ⟨Nat.zero_le _, Nat.zero_le _⟩ (c_atH hΩ (j := 97 + b + 4 * h) (j' := 93 + b + 4 * h) (by omega) (by omega)) rfl rfl ((hΩ _).1) rfl rfl ?_
  exact G_iret dX0_ofPlot_69 ⟨Nat.zero_le _, Nat.zero_le _⟩ (rfl)
theorem c_ofPlot_3 (hΩ : LV lp ap Ω) {q f : mj_S} {h b : Nat} (hh : h < 5) (hb : b < 4) : MC l yX0_ofPlot wsX0_ofPlot rmX0_ofPlot false [.ref lp, .int (nI (h)), .int (nI (b)), .int 3] (Ω (row q f)) (some (.int (s_ofP f h b 3))) (Ω (row q f)) := by
  refine mj_MC (cc := cX0_ofPlot) (nl := 5) (ret := (some .int)) (plainFor_of_name (by decide)) rfl (⟨_, rfl, rfl⟩) (Nat.le_of_ble_eq_true rfl) ?_
  show GG l cX0_ofPlot MX0_ofPlot false (.inl ((some (.int (s_ofP f h b 3))), Ω (row q f))) 0 [some (.ref lp), some (.int (nI (h))), some (.int (nI (b))), some (.int 3), none] [] (Ω (row q f)) 0 0
  refine G_iload_n dX0_ofPlot_0 rfl ?_
  refine G_iload_n dX0_ofPlot_1 rfl ?_
  refine G_callSi dX0_ofPlot_2 kX0_ofPlot_X0_plotOf ⟨rfl, rfl⟩ ⟨Nat.zero_le _, Nat.zero_le _⟩ (c_plotOfN (h := h) (b := b) (s := b + 4 * h) (by omega)) rfl rfl rfl ?_
  refine G_istore dX0_ofPlot_5 rfl (L' := [some (.ref lp), some (.int (nI (h))), some (.int (nI (b))), some (.int 3), some (.int (nI (b + 4 * h)))]) rfl ?_
  refine G_iload_n dX0_ofPlot_7 rfl ?_
  refine G_tabIn (off := 62) 70 dX0_ofPlot_8 (by decide) (by decide) (by decide) (by decide) ?_
  refine G_aload_n dX0_ofPlot_70 rfl ?_
  refine G_bipush (v := 117) dX0_ofPlot_71 (by decide) ?_
  refine G_iload dX0_ofPlot_73 rfl ?_
  refine G_iaddN (a := 117) (c := b + 4 * h) (s := 117 + b + 4 * h) dX0_ofPlot_75 (by omega) ?_
  refine G_callVi dX0_ofPlot_76 kX0_ofPlot_X0_at ⟨rfl, rfl⟩ ⟨Nat.zero_le _, Nat.zero_le _⟩ (c_atH hΩ (j := 117 + b + 4 * h) (j' := 113 + b + 4 * h) (by omega) (by omega)) rfl rfl ((hΩ _).1) rfl rfl ?_
  exact G_iret dX0_ofPlot_79 ⟨Nat.zero_le _, Nat.zero_le _⟩ (rfl)
theorem c_ofPlot_4 (hΩ : LV lp ap Ω) {q f : mj_S} {h b : Nat} (hh : h < 5) (hb : b < 4) : MC l yX0_ofPlot wsX0_ofPlot rmX0_ofPlot false [.ref lp, .int (nI (h)), .int (nI (b)), .int 4] (Ω (row q f)) (some (.int (s_ofP f h b 4))) (Ω (row q f)) := by
  refine mj_MC (cc := cX0_ofPlot) (nl := 5) (ret := (some .int)) (plainFor_of_name (by decide)) rfl (⟨_, rfl, rfl⟩) (Nat.le_of_ble_eq_true rfl) ?_
  show GG l cX0_ofPlot MX0_ofPlot false (.inl ((some (.int (s_ofP f h b 4))), Ω (row q f))) 0 [some (.ref lp), some (.int (nI (h))), some (.int (nI (b))), some (.int 4), none] [] (Ω (row q f)) 0 0
  refine G_iload_n dX0_ofPlot_0 rfl ?_
  refine G_iload_n dX0_ofPlot_1 rfl ?_
  refine G_callSi dX0_ofPlot_2 kX0_ofPlot_X0_plotOf ⟨rfl, rfl⟩ ⟨Nat.zero_le _, Nat.zero_le _⟩ (c_plotOfN (h := h) (b := b) (s := b + 4 * h) (by omega)) rfl rfl rfl ?_
  refine G_istore dX0_ofPlot_5 rfl (L' := [some (.ref lp), some (.int (nI (h))), some (.int (nI (b))), some (.int 4), some (.int (nI (b + 4 * h)))]) rfl ?_
  refine G_iload_n dX0_ofPlot_7 rfl ?_
  refine G_tabOut 80 dX0_ofPlot_8 (by decide) (by decide) ?_
  refine G_aload_n dX0_ofPlot_80 rfl ?_
  refine G_iload_n dX0_ofPlot_81 rfl ?_
  refine G_iload_n dX0_ofPlot_82 rfl ?_
  refine G_callVi dX0_ofPlot_83 kX0_ofPlot_X0_cuttersAt ⟨rfl, rfl⟩ ⟨Nat.zero_le _, Nat.zero_le _⟩ (c_cuttersAt hΩ) rfl rfl ((hΩ _).1) rfl rfl ?_
  exact G_iret dX0_ofPlot_86 ⟨Nat.zero_le _, Nat.zero_le _⟩ (rfl)
theorem c_ofPlot (hΩ : LV lp ap Ω) {q f : mj_S} {h b : Nat} (hh : h < 5) (hb : b < 4) {w : Nat} (hw : w < 5) : MC l yX0_ofPlot wsX0_ofPlot rmX0_ofPlot false [.ref lp, .int (nI (h)), .int (nI (b)), .int (nI (w))] (Ω (row q f)) (some (.int (s_ofP f h b w))) (Ω (row q f)) := by
  rcases (show w = 0 ∨ w = 1 ∨ w = 2 ∨ w = 3 ∨ w = 4 by omega) with rfl | rfl | rfl | rfl | rfl
  · exact c_ofPlot_0 hΩ hh hb
  · exact c_ofPlot_1 hΩ hh hb
  · exact c_ofPlot_2 hΩ hh hb
  · exact c_ofPlot_3 hΩ hh hb
  · exact c_ofPlot_4 hΩ hh hb
theorem c_ofCutter_0 (hΩ : LV lp ap Ω) {q f : mj_S} {c : Nat} (hc : c < 6) : MC l yX0_ofCutter wsX0_ofCutter rmX0_ofCutter false [.ref lp, .int (nI (c)), .int 0] (Ω (row q f)) (some (.int (f (133 + c)))) (Ω (row q f)) := by
  refine mj_MC (cc := cX0_ofCutter) (nl := 3) (ret := (some .int)) (plainFor_of_name (by decide)) rfl (⟨_, rfl, rfl⟩) (Nat.le_of_ble_eq_true rfl) ?_
  show GG l cX0_ofCutter MX0_ofCutter false (.inl ((some (.int (f (133 + c)))), Ω (row q f))) 0 [some (.ref lp), some (.int (nI (c))), some (.int 0)] [] (Ω (row q f)) 0 0
  refine G_iload_n dX0_ofCutter_0 rfl ?_
  refine G_tabIn (off := 27) 28 dX0_ofCutter_1 (by decide) (by decide) (by decide) (by decide) ?_
  refine G_aload_n dX0_ofCutter_28 rfl ?_
  refine G_sipush (v := 137) dX0_ofCutter_29 (by decide) ?_
  refine G_iload_n dX0_ofCutter_32 rfl ?_
  refine G_iaddN (a := 137) (c := c) (s := 137 + c) dX0_ofCutter_33 (by omega) ?_
  refine G_callVi dX0_ofCutter_34 kX0_ofCutter_X0_at ⟨rfl, rfl⟩ ⟨Nat.zero_le _, Nat.zero_le _⟩ (c_atH hΩ (j := 137 + c) (j' := 133 + c) (by omega) (by omega)) rfl rfl ((hΩ _).1) rfl rfl ?_
  exact G_iret dX0_ofCutter_37 ⟨Nat.zero_le _, Nat.zero_le _⟩ (rfl)
theorem c_ofCutter_1 (hΩ : LV lp ap Ω) {q f : mj_S} {c : Nat} (hc : c < 6) : MC l yX0_ofCutter wsX0_ofCutter rmX0_ofCutter false [.ref lp, .int (nI (c)), .int 1] (Ω (row q f)) (some (.int (f (139 + c)))) (Ω (row q f)) := by
  refine mj_MC (cc := cX0_ofCutter) (nl := 3) (ret := (some .int)) (plainFor_of_name (by decide)) rfl (⟨_, rfl, rfl⟩) (Nat.le_of_ble_eq_true rfl) ?_
  show GG l cX0_ofCutter MX0_ofCutter false (.inl ((some (.int (f (139 + c)))), Ω (row q f))) 0 [some (.ref lp), some (.int (nI (c))), some (.int 1)] [] (Ω (row q f)) 0 0
  refine G_iload_n dX0_ofCutter_0 rfl ?_
  refine G_tabIn (off := 37) 38 dX0_ofCutter_1 (by decide) (by decide) (by decide) (by decide) ?_
  refine G_aload_n dX0_ofCutter_38 rfl ?_
  refine G_sipush (v := 143) dX0_ofCutter_39 (by decide) ?_
  refine G_iload_n dX0_ofCutter_42 rfl ?_
  refine G_iaddN (a := 143) (c := c) (s := 143 + c) dX0_ofCutter_43 (by omega) ?_
  refine G_callVi dX0_ofCutter_44 kX0_ofCutter_X0_at ⟨rfl, rfl⟩ ⟨Nat.zero_le _, Nat.zero_le _⟩ (c_atH hΩ (j := 143 + c) (j' := 139 + c) (by omega) (by omega)) rfl rfl ((hΩ _).1) rfl rfl ?_
  exact G_iret dX0_ofCutter_47 ⟨Nat.zero_le _, Nat.zero_le _⟩ (rfl)
theorem c_ofCutter_2 (hΩ : LV lp ap Ω) {q f : mj_S} {c : Nat} (hc : c < 6) : MC l yX0_ofCutter wsX0_ofCutter rmX0_ofCutter false [.ref lp, .int (nI (c)), .int 2] (Ω (row q f)) (some (.int (f (145 + c)))) (Ω (row q f)) := by
  refine mj_MC (cc := cX0_ofCutter) (nl := 3) (ret := (some .int)) (plainFor_of_name (by decide)) rfl (⟨_, rfl, rfl⟩) (Nat.le_of_ble_eq_true rfl) ?_
  show GG l cX0_ofCutter MX0_ofCutter false (.inl ((some (.int (f (145 + c)))), Ω (row q f))) 0 [some (.ref lp), some (.int (nI (c))), some (.int 2)] [] (Ω (row q f)) 0 0
  refine G_iload_n dX0_ofCutter_0 rfl ?_
  refine G_tabIn (off := 47) 48 dX0_ofCutter_1 (by decide) (by decide) (by decide) (by decide) ?_
  refine G_aload_n dX0_ofCutter_48 rfl ?_
  refine G_sipush (v := 149) dX0_ofCutter_49 (by decide) ?_
  refine G_iload_n dX0_ofCutter_52 rfl ?_
  refine G_iaddN (a := 149) (c := c) (s := 149 + c) dX0_ofCutter_53 (by omega) ?_
  refine G_callVi dX0_ofCutter_54 kX0_ofCutter_X0_at ⟨rfl, rfl⟩ ⟨Nat.zero_le _, Nat.zero_le _⟩ (c_atH hΩ (j := 149 + c) (j' := 145 + c) (by omega) (by omega)) rfl rfl ((hΩ _).1) rfl rfl ?_
  exact G_iret dX0_ofCutter_57 ⟨Nat.zero_le _, Nat.zero_le _⟩ (rfl)
theorem c_ofCutter_3 (hΩ : LV lp ap Ω) {q f : mj_S} {c : Nat} (hc : c < 6) : MC l yX0_ofCutter wsX0_ofCutter rmX0_ofCutter false [.ref lp, .int (nI (c)), .int 3] (Ω (row q f)) (some (.int (f (151 + c)))) (Ω (row q f)) := by
  refine mj_MC (cc := cX0_ofCutter) (nl := 3) (ret := (some .int)) (plainFor_of_name (by decide)) rfl (⟨_, rfl, rfl⟩) (Nat.le_of_ble_eq_true rfl) ?_
  show GG l cX0_ofCutter MX0_ofCutter false (.inl ((some (.int (f (151 + c)))), Ω (row q f))) 0 [some (.ref lp), some (.int (nI (c))), some (.int 3)] [] (Ω (row q f)) 0 0
  refine G_iload_n dX0_ofCutter_0 rfl ?_
  refine G_tabOut 58 dX0_ofCutter_1 (by decide) (by decide) ?_
  refine G_aload_n dX0_ofCutter_58 rfl ?_
  refine G_sipush (v := 155) dX0_ofCutter_59 (by decide) ?_
  refine G_iload_n dX0_ofCutter_62 rfl ?_
  refine G_iaddN (a := 155) (c := c) (s := 155 + c) dX0_ofCutter_63 (by omega) ?_
  refine G_callVi dX0_ofCutter_64 kX0_ofCutter_X0_at ⟨rfl, rfl⟩ ⟨Nat.zero_le _, Nat.zero_le _⟩ (c_atH hΩ (j := 155 + c) (j' := 151 + c) (by omega) (by omega)) rfl rfl ((hΩ _).1) rfl rfl ?_
  exact G_iret dX0_ofCutter_67 ⟨Nat.zero_le _, Nat.zero_le _⟩ (rfl)
theorem c_ofCutter (hΩ : LV lp ap Ω) {q f : mj_S} {c : Nat} (hc : c < 6) {w : Nat} (hw : w < 4) : MC l yX0_ofCutter wsX0_ofCutter rmX0_ofCutter false [.ref lp, .int (nI (c)), .int (nI (w))] (Ω (row q f)) (some (.int (f (133 + 6 * w + c)))) (Ω (row q f)) := by
  rcases (show w = 0 ∨ w = 1 ∨ w = 2 ∨ w = 3 by omega) with rfl | rfl | rfl | rfl
  · exact c_ofCutter_0 hΩ hc
  · exact c_ofCutter_1 hΩ hc
  · exact c_ofCutter_2 hΩ hc
  · exact c_ofCutter_3 hΩ hc
theorem c_ofAll_0 (hΩ : LV lp ap Ω) {q f : mj_S} : MC l yX0_ofAll wsX0_ofAll rmX0_ofAll false [.ref lp, .int 0] (Ω (row q f)) (some (.int (s_ofA f 0))) (Ω (row q f)) := by
  refine mj_MC (cc := cX0_ofAll) (nl := 2) (ret := (some .int)) (plainFor_of_name (by decide)) rfl (⟨_, rfl, rfl⟩) (Nat.le_of_ble_eq_true rfl) ?_
  show GG l cX0_ofAll MX0_ofAll false (.inl ((some (.int (s_ofA f 0))), Ω (row q f))) 0 [some (.ref lp), some (.int 0)] [] (Ω (row q f)) 0 0
  refine G_iload_n dX0_ofAll_0 rfl ?_
  refine G_tabIn (off := 59) 60 dX0_ofAll_1 (by decide) (by decide) (by decide) (by decide) ?_
  refine G_aload_n dX0_ofAll_60 rfl ?_
  refine G_iconst (v := 0) dX0_ofAll_61 (by decide) ?_
  refine G_callVi dX0_ofAll_62 kX0_ofAll_X0_at ⟨rfl, rfl⟩ ⟨Nat.zero_le _, Nat.zero_le _⟩ (c_atL hΩ (j := 0) (by omega)) rfl rfl ((hΩ _).1) rfl rfl ?_
  exact G_iret dX0_ofAll_65 ⟨Nat.zero_le _, Nat.zero_le _⟩ (rfl)
theorem c_ofAll_1 (hΩ : LV lp ap Ω) {q f : mj_S} : MC l yX0_ofAll wsX0_ofAll rmX0_ofAll false [.ref lp, .int 1] (Ω (row q f)) (some (.int (s_ofA f 1))) (Ω (row q f)) := by
  refine mj_MC (cc := cX0_ofAll) (nl := 2) (ret := (some .int)) (plainFor_of_name (by decide)) rfl (⟨_, rfl, rfl⟩) (Nat.le_of_ble_eq_true rfl) ?_
  show GG l cX0_ofAll MX0_ofAll false (.inl ((some (.int (s_ofA f 1))), Ω (row q f))) 0 [some (.ref lp), some (.int 1)] [] (Ω (row q f)) 0 0
  refine G_iload_n dX0_ofAll_0 rfl ?_
  refine G_tabIn (off := 65) 66 dX0_ofAll_1 (by decide) (by decide) (by decide) (by decide) ?_
  refine G_aload_n dX0_ofAll_66 rfl ?_
  refine G_iconst (v := 1) dX0_ofAll_67 (by decide) ?_
  refine G_callVi dX0_ofAll_68 kX0_ofAll_X0_at ⟨rfl, rfl⟩ ⟨Nat.zero_le _, Nat.zero_le _⟩ (c_atL hΩ (j := 1) (by omega)) rfl rfl ((hΩ _).1) rfl rfl ?_
  exact G_iret dX0_ofAll_71 ⟨Nat.zero_le _, Nat.zero_le _⟩ (rfl)
theorem c_ofAll_2 (hΩ : LV lp ap Ω) {q f : mj_S} : MC l yX0_ofAll wsX0_ofAll rmX0_ofAll false [.ref lp, .int 2] (Ω (row q f)) (some (.int (s_ofA f 2))) (Ω (row q f)) := by
  refine mj_MC (cc := cX0_ofAll) (nl := 2) (ret := (some .int)) (plainFor_of_name (by decide)) rfl (⟨_, rfl, rfl⟩) (Nat.le_of_ble_eq_true rfl) ?_
  show GG l cX0_ofAll MX0_ofAll false (.inl ((some (.int (s_ofA f 2))), Ω (row q f))) 0 [some (.ref lp), some (.int 2)] [] (Ω (row q f)) 0 0
  refine G_iload_n dX0_ofAll_0 rfl ?_
  refine G_tabIn (off := 71) 72 dX0_ofAll_1 (by decide) (by decide) (by decide) (by decide) ?_
  refine G_aload_n dX0_ofAll_72 rfl ?_
  refine G_callVi dX0_ofAll_73 kX0_ofAll_X0_cuttersAtWork ⟨rfl, rfl⟩ ⟨Nat.zero_le _, Nat.zero_le _⟩ (c_cuttersAtWork hΩ) rfl rfl ((hΩ _).1) rfl rfl ?_
  exact G_iret dX0_ofAll_76 ⟨Nat.zero_le _, Nat.zero_le _⟩ (rfl)
theorem c_ofAll_3 (hΩ : LV lp ap Ω) {q f : mj_S} : MC l yX0_ofAll wsX0_ofAll rmX0_ofAll false [.ref lp, .int 3] (Ω (row q f)) (some (.int (s_ofA f 3))) (Ω (row q f)) := by
  refine mj_MC (cc := cX0_ofAll) (nl := 2) (ret := (some .int)) (plainFor_of_name (by decide)) rfl (⟨_, rfl, rfl⟩) (Nat.le_of_ble_eq_true rfl) ?_
  show GG l cX0_ofAll MX0_ofAll false (.inl ((some (.int (s_ofA f 3))), Ω (row q f))) 0 [some (.ref lp), some (.int 3)] [] (Ω (row q f)) 0 0
  refine G_iload_n dX0_ofAll_0 rfl ?_
  refine G_tabIn (off := 76) 77 dX0_ofAll_1 (by decide) (by decide) (by decide) (by decide) ?_
  refine G_aload_n dX0_ofAll_77 rfl ?_
  refine G_bipush (v := 45) dX0_ofAll_78 (by decide) ?_
  refine G_iconst (v := 4) dX0_ofAll_80 (by decide) ?_
  refine G_callVi dX0_ofAll_81 kX0_ofAll_X0_sum ⟨rfl, rfl⟩ ⟨Nat.zero_le _, Nat.zero_le _⟩ (c_sumL hΩ (a := 45) (m := 4) (by omega)) rfl rfl ((hΩ _).1) rfl rfl ?_
  exact G_iret dX0_ofAll_84 ⟨Nat.zero_le _, Nat.zero_le _⟩ (rfl)
theorem c_ofAll_4 (hΩ : LV lp ap Ω) {q f : mj_S} : MC l yX0_ofAll wsX0_ofAll rmX0_ofAll false [.ref lp, .int 4] (Ω (row q f)) (some (.int (s_ofA f 4))) (Ω (row q f)) := by
  refine mj_MC (cc := cX0_ofAll) (nl := 2) (ret := (some .int)) (plainFor_of_name (by decide)) rfl (⟨_, rfl, rfl⟩) (Nat.le_of_ble_eq_true rfl) ?_
  show GG l cX0_ofAll MX0_ofAll false (.inl ((some (.int (s_ofA f 4))), Ω (row q f))) 0 [some (.ref lp), some (.int 4)] [] (Ω (row q f)) 0 0
  refine G_iload_n dX0_ofAll_0 rfl ?_
  refine G_tabIn (off := 84) 85 dX0_ofAll_1 (by decide) (by decide) (by decide) (by decide) ?_
  refine G_aload_n dX0_ofAll_85 rfl ?_
  refine G_callVi dX0_ofAll_86 kX0_ofAll_X0_turvesOnBanks ⟨rfl, rfl⟩ ⟨Nat.zero_le _, Nat.zero_le _⟩ (c_turvesOnBanks hΩ) rfl rfl ((hΩ _).1) rfl rfl ?_
  exact G_iret dX0_ofAll_89 ⟨Nat.zero_le _, Nat.zero_le _⟩ (rfl)
theorem c_ofAll_5 (hΩ : LV lp ap Ω) {q f : mj_S} : MC l yX0_ofAll wsX0_ofAll rmX0_ofAll false [.ref lp, .int 5] (Ω (row q f)) (some (.int (s_ofA f 5))) (Ω (row q f)) := by
  refine mj_MC (cc := cX0_ofAll) (nl := 2) (ret := (some .int)) (plainFor_of_name (by decide)) rfl (⟨_, rfl, rfl⟩) (Nat.le_of_ble_eq_true rfl) ?_
  show GG l cX0_ofAll MX0_ofAll false (.inl ((some (.int (s_ofA f 5))), Ω (row q f))) 0 [some (.ref lp), some (.int 5)] [] (Ω (row q f)) 0 0
  refine G_iload_n dX0_ofAll_0 rfl ?_
  refine G_tabIn (off := 89) 90 dX0_ofAll_1 (by decide) (by decide) (by decide) (by decide) ?_
  refine G_aload_n dX0_ofAll_90 rfl ?_
  refine G_bipush (v := 15) dX0_ofAll_91 (by decide) ?_
  refine G_iconst (v := 5) dX0_ofAll_93 (by decide) ?_
  refine G_callVi dX0_ofAll_94 kX0_ofAll_X0_sum ⟨rfl, rfl⟩ ⟨Nat.zero_le _, Nat.zero_le _⟩ (c_sumL hΩ (a := 15) (m := 5) (by omega)) rfl rfl ((hΩ _).1) rfl rfl ?_
  exact G_iret dX0_ofAll_97 ⟨Nat.zero_le _, Nat.zero_le _⟩ (rfl)
theorem c_ofAll_6 (hΩ : LV lp ap Ω) {q f : mj_S} : MC l yX0_ofAll wsX0_ofAll rmX0_ofAll false [.ref lp, .int 6] (Ω (row q f)) (some (.int (s_ofA f 6))) (Ω (row q f)) := by
  refine mj_MC (cc := cX0_ofAll) (nl := 2) (ret := (some .int)) (plainFor_of_name (by decide)) rfl (⟨_, rfl, rfl⟩) (Nat.le_of_ble_eq_true rfl) ?_
  show GG l cX0_ofAll MX0_ofAll false (.inl ((some (.int (s_ofA f 6))), Ω (row q f))) 0 [some (.ref lp), some (.int 6)] [] (Ω (row q f)) 0 0
  refine G_iload_n dX0_ofAll_0 rfl ?_
  refine G_tabIn (off := 97) 98 dX0_ofAll_1 (by decide) (by decide) (by decide) (by decide) ?_
  refine G_aload_n dX0_ofAll_98 rfl ?_
  refine G_bipush (v := 35) dX0_ofAll_99 (by decide) ?_
  refine G_iconst (v := 5) dX0_ofAll_101 (by decide) ?_
  refine G_callVi dX0_ofAll_102 kX0_ofAll_X0_sum ⟨rfl, rfl⟩ ⟨Nat.zero_le _, Nat.zero_le _⟩ (c_sumL hΩ (a := 35) (m := 5) (by omega)) rfl rfl ((hΩ _).1) rfl rfl ?_
  exact G_iret dX0_ofAll_105 ⟨Nat.zero_le _, Nat.zero_le _⟩ (rfl)
theorem c_ofAll_7 (hΩ : LV lp ap Ω) {q f : mj_S} : MC l yX0_ofAll wsX0_ofAll rmX0_ofAll false [.ref lp, .int 7] (Ω (row q f)) (some (.int (s_ofA f 7))) (Ω (row q f)) := by
  refine mj_MC (cc := cX0_ofAll) (nl := 2) (ret := (some .int)) (plainFor_of_name (by decide)) rfl (⟨_, rfl, rfl⟩) (Nat.le_of_ble_eq_true rfl) ?_
  show GG l cX0_ofAll MX0_ofAll false (.inl ((some (.int (s_ofA f 7))), Ω (row q f))) 0 [some (.ref lp), some (.int 7)] [] (Ω (row q f)) 0 0
  refine G_iload_n dX0_ofAll_0 rfl ?_
  refine G_tabIn (off := 105) 106 dX0_ofAll_1 (by decide) (by decide) (by decide) (by decide) ?_
  refine G_aload_n dX0_ofAll_106 rfl ?_
  refine G_callVi dX0_ofAll_107 kX0_ofAll_X0_hearthsShort ⟨rfl, rfl⟩ ⟨Nat.zero_le _, Nat.zero_le _⟩ (c_hearthsShort hΩ) rfl rfl ((hΩ _).1) rfl rfl ?_
  exact G_iret dX0_ofAll_110 ⟨Nat.zero_le _, Nat.zero_le _⟩ (rfl)
theorem c_ofAll_8 (hΩ : LV lp ap Ω) {q f : mj_S} : MC l yX0_ofAll wsX0_ofAll rmX0_ofAll false [.ref lp, .int 8] (Ω (row q f)) (some (.int (s_ofA f 8))) (Ω (row q f)) := by
  refine mj_MC (cc := cX0_ofAll) (nl := 2) (ret := (some .int)) (plainFor_of_name (by decide)) rfl (⟨_, rfl, rfl⟩) (Nat.le_of_ble_eq_true rfl) ?_
  show GG l cX0_ofAll MX0_ofAll false (.inl ((some (.int (s_ofA f 8))), Ω (row q f))) 0 [some (.ref lp), some (.int 8)] [] (Ω (row q f)) 0 0
  refine G_iload_n dX0_ofAll_0 rfl ?_
  refine G_tabIn (off := 110) 111 dX0_ofAll_1 (by decide) (by decide) (by decide) (by decide) ?_
  refine G_aload_n dX0_ofAll_111 rfl ?_
  refine G_callVi dX0_ofAll_112 kX0_ofAll_X0_hearthsThatWillBeShort ⟨rfl, rfl⟩ ⟨Nat.zero_le _, Nat.zero_le _⟩ (c_hearthsThatWillBeShort hΩ) rfl rfl ((hΩ _).1) rfl rfl ?_
  exact G_iret dX0_ofAll_115 ⟨Nat.zero_le _, Nat.zero_le _⟩ (rfl)
theorem c_ofAll_9 (hΩ : LV lp ap Ω) {q f : mj_S} : MC l yX0_ofAll wsX0_ofAll rmX0_ofAll false [.ref lp, .int 9] (Ω (row q f)) (some (.int (s_ofA f 9))) (Ω (row q f)) := by
  refine mj_MC (cc := cX0_ofAll) (nl := 2) (ret := (some .int)) (plainFor_of_name (by decide)) rfl (⟨_, rfl, rfl⟩) (Nat.le_of_ble_eq_true rfl) ?_
  show GG l cX0_ofAll MX0_ofAll false (.inl ((some (.int (s_ofA f 9))), Ω (row q f))) 0 [some (.ref lp), some (.int 9)] [] (Ω (row q f)) 0 0
  refine G_iload_n dX0_ofAll_0 rfl ?_
  refine G_tabIn (off := 115) 116 dX0_ofAll_1 (by decide) (by decide) (by decide) (by decide) ?_
  refine G_aload_n dX0_ofAll_116 rfl ?_
  refine G_iconst (v := 2) dX0_ofAll_117 (by decide) ?_
  refine G_callVi dX0_ofAll_118 kX0_ofAll_X0_at ⟨rfl, rfl⟩ ⟨Nat.zero_le _, Nat.zero_le _⟩ (c_atL hΩ (j := 2) (by omega)) rfl rfl ((hΩ _).1) rfl rfl ?_
  exact G_iret dX0_ofAll_121 ⟨Nat.zero_le _, Nat.zero_le _⟩ (rfl)
theorem c_ofAll_10 (hΩ : LV lp ap Ω) {q f : mj_S} : MC l yX0_ofAll wsX0_ofAll rmX0_ofAll false [.ref lp, .int 10] (Ω (row q f)) (some (.int (s_ofA f 10))) (Ω (row q f)) := by
  refine mj_MC (cc := cX0_ofAll) (nl := 2) (ret := (some .int)) (plainFor_of_name (by decide)) rfl (⟨_, rfl, rfl⟩) (Nat.le_of_ble_eq_true rfl) ?_
  show GG l cX0_ofAll MX0_ofAll false (.inl ((some (.int (s_ofA f 10))), Ω (row q f))) 0 [some (.ref lp), some (.int 10)] [] (Ω (row q f)) 0 0
  refine G_iload_n dX0_ofAll_0 rfl ?_
  refine G_tabIn (off := 121) 122 dX0_ofAll_1 (by decide) (by decide) (by decide) (by decide) ?_
  refine G_aload_n dX0_ofAll_122 rfl ?_
  refine G_iconst (v := 3) dX0_ofAll_123 (by decide) ?_
  refine G_callVi dX0_ofAll_124 kX0_ofAll_X0_at ⟨rfl, rfl⟩ ⟨Nat.zero_le _, Nat.zero_le _⟩ (c_atL hΩ (j := 3) (by omega)) rfl rfl ((hΩ _).1) rfl rfl ?_
  exact G_iret dX0_ofAll_127 ⟨Nat.zero_le _, Nat.zero_le _⟩ (rfl)
theorem c_ofAll_11 (hΩ : LV lp ap Ω) {q f : mj_S} : MC l yX0_ofAll wsX0_ofAll rmX0_ofAll false [.ref lp, .int 11] (Ω (row q f)) (some (.int (s_ofA f 11))) (Ω (row q f)) := by
  refine mj_MC (cc := cX0_ofAll) (nl := 2) (ret := (some .int)) (plainFor_of_name (by decide)) rfl (⟨_, rfl, rfl⟩) (Nat.le_of_ble_eq_true rfl) ?_
  show GG l cX0_ofAll MX0_ofAll false (.inl ((some (.int (s_ofA f 11))), Ω (row q f))) 0 [some (.ref lp), some (.int 11)] [] (Ω (row q f)) 0 0
  refine G_iload_n dX0_ofAll_0 rfl ?_
  refine G_tabOut 128 dX0_ofAll_1 (by decide) (by decide) ?_
  refine G_aload_n dX0_ofAll_128 rfl ?_
  refine G_iconst (v := 4) dX0_ofAll_129 (by decide) ?_
  refine G_callVi dX0_ofAll_130 kX0_ofAll_X0_at ⟨rfl, rfl⟩ ⟨Nat.zero_le _, Nat.zero_le _⟩ (c_atL hΩ (j := 4) (by omega)) rfl rfl ((hΩ _).1) rfl rfl ?_
  exact G_iret dX0_ofAll_133 ⟨Nat.zero_le _, Nat.zero_le _⟩ (rfl)
theorem c_ofAll (hΩ : LV lp ap Ω) {q f : mj_S}  {w : Nat} (hw : w < 12) : MC l yX0_ofAll wsX0_ofAll rmX0_ofAll false [.ref lp, .int (nI (w))] (Ω (row q f)) (some (.int (s_ofA f w))) (Ω (row q f)) := by
  rcases (show w = 0 ∨ w = 1 ∨ w = 2 ∨ w = 3 ∨ w = 4 ∨ w = 5 ∨ w = 6 ∨ w = 7 ∨ w = 8 ∨ w = 9 ∨ w = 10 ∨ w = 11 by omega) with rfl | rfl | rfl | rfl | rfl | rfl | rfl | rfl | rfl | rfl | rfl | rfl
  · exact c_ofAll_0 hΩ 
  · exact c_ofAll_1 hΩ 
  · exact c_ofAll_2 hΩ 
  · exact c_ofAll_3 hΩ 
  · exact c_ofAll_4 hΩ 
  · exact c_ofAll_5 hΩ 
  · exact c_ofAll_6 hΩ 
  · exact c_ofAll_7 hΩ 
  · exact c_ofAll_8 hΩ 
  · exact c_ofAll_9 hΩ 
  · exact c_ofAll_10 hΩ 
  · exact c_ofAll_11 hΩ 
end LC
end
