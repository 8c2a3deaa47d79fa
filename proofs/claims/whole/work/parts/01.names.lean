-- ===== PART A: goes FIRST, ahead of the names: the tables' words, and 'selects' of the private methods out of them =====
/-- a private method of a class that the tables say can be made, by its rows of tables_1 -/
def lw_okq (q : MethodName × Nat) : Prop := (q.1.cls ≠ "java/lang/invoke/MethodHandle" ∧ q.1.cls ≠ "java/lang/invoke/VarHandle") ∧ Cond.instantiable q.1.cls q.2 ∈ tables_1 ∧ Cond.privateMethod q.1 ∈ tables_1 ∧ Cond.instanceMethod q.1 ∈ tables_1
theorem lw_p0 : lw_okq (⟨"GrainLeg", "recorded", "(I)I"⟩, 9) := ⟨⟨by decide +kernel, by decide +kernel⟩, List.mem_of_getElem? (i := 12) (by decide +kernel), List.mem_of_getElem? (i := 267) (by decide +kernel), List.mem_of_getElem? (i := 268) (by decide +kernel)⟩
theorem lw_p1 : lw_okq (⟨"GrainLeg$History", "indexOf", "(I)I"⟩, 3) := ⟨⟨by decide +kernel, by decide +kernel⟩, List.mem_of_getElem? (i := 155) (by decide +kernel), List.mem_of_getElem? (i := 278) (by decide +kernel), List.mem_of_getElem? (i := 279) (by decide +kernel)⟩
theorem lw_p2 : lw_okq (⟨"GrainLeg$Leg", "mayBeReset", "()Z"⟩, 13) := ⟨⟨by decide +kernel, by decide +kernel⟩, List.mem_of_getElem? (i := 20) (by decide +kernel), List.mem_of_getElem? (i := 333) (by decide +kernel), List.mem_of_getElem? (i := 334) (by decide +kernel)⟩
theorem lw_p3 : lw_okq (⟨"GrainLeg$Leg", "tick", "()V"⟩, 13) := ⟨⟨by decide +kernel, by decide +kernel⟩, List.mem_of_getElem? (i := 20) (by decide +kernel), List.mem_of_getElem? (i := 354) (by decide +kernel), List.mem_of_getElem? (i := 355) (by decide +kernel)⟩
theorem lw_p4 : lw_okq (⟨"GrainLeg$Grain", "pourIntoBoot", "(I)V"⟩, 6) := ⟨⟨by decide +kernel, by decide +kernel⟩, List.mem_of_getElem? (i := 49) (by decide +kernel), List.mem_of_getElem? (i := 362) (by decide +kernel), List.mem_of_getElem? (i := 363) (by decide +kernel)⟩
theorem lw_p5 : lw_okq (⟨"GrainLeg$Leg", "slipOf", "(I)I"⟩, 13) := ⟨⟨by decide +kernel, by decide +kernel⟩, List.mem_of_getElem? (i := 20) (by decide +kernel), List.mem_of_getElem? (i := 369) (by decide +kernel), List.mem_of_getElem? (i := 370) (by decide +kernel)⟩
theorem lw_p6 : lw_okq (⟨"GrainLeg$Leg", "moveOneCell", "()V"⟩, 13) := ⟨⟨by decide +kernel, by decide +kernel⟩, List.mem_of_getElem? (i := 20) (by decide +kernel), List.mem_of_getElem? (i := 374) (by decide +kernel), List.mem_of_getElem? (i := 375) (by decide +kernel)⟩
theorem lw_p7 : lw_okq (⟨"GrainLeg$Leg", "rub", "()V"⟩, 13) := ⟨⟨by decide +kernel, by decide +kernel⟩, List.mem_of_getElem? (i := 20) (by decide +kernel), List.mem_of_getElem? (i := 396) (by decide +kernel), List.mem_of_getElem? (i := 397) (by decide +kernel)⟩
theorem lw_p8 : lw_okq (⟨"GrainLeg$Leg", "watch", "()V"⟩, 13) := ⟨⟨by decide +kernel, by decide +kernel⟩, List.mem_of_getElem? (i := 20) (by decide +kernel), List.mem_of_getElem? (i := 403) (by decide +kernel), List.mem_of_getElem? (i := 404) (by decide +kernel)⟩
theorem lw_p9 : lw_okq (⟨"GrainLeg$Leg", "tripBy", "(I)V"⟩, 13) := ⟨⟨by decide +kernel, by decide +kernel⟩, List.mem_of_getElem? (i := 20) (by decide +kernel), List.mem_of_getElem? (i := 415) (by decide +kernel), List.mem_of_getElem? (i := 416) (by decide +kernel)⟩
theorem lw_p10 : lw_okq (⟨"GrainLeg$Text", "readCommand", "()Z"⟩, 6) := ⟨⟨by decide +kernel, by decide +kernel⟩, List.mem_of_getElem? (i := 175) (by decide +kernel), List.mem_of_getElem? (i := 449) (by decide +kernel), List.mem_of_getElem? (i := 450) (by decide +kernel)⟩
theorem lw_p11 : lw_okq (⟨"GrainLeg$Text", "next", "()I"⟩, 6) := ⟨⟨by decide +kernel, by decide +kernel⟩, List.mem_of_getElem? (i := 175) (by decide +kernel), List.mem_of_getElem? (i := 453) (by decide +kernel), List.mem_of_getElem? (i := 454) (by decide +kernel)⟩
theorem lw_p12 : lw_okq (⟨"GrainLeg$Text", "readValue", "(I)Z"⟩, 6) := ⟨⟨by decide +kernel, by decide +kernel⟩, List.mem_of_getElem? (i := 175) (by decide +kernel), List.mem_of_getElem? (i := 461) (by decide +kernel), List.mem_of_getElem? (i := 462) (by decide +kernel)⟩
theorem lw_p13 : lw_okq (⟨"GrainLeg$Text", "readNumber", "(II)Z"⟩, 6) := ⟨⟨by decide +kernel, by decide +kernel⟩, List.mem_of_getElem? (i := 175) (by decide +kernel), List.mem_of_getElem? (i := 467) (by decide +kernel), List.mem_of_getElem? (i := 468) (by decide +kernel)⟩
theorem lw_p14 : lw_okq (⟨"GrainLeg$Text", "nextDigit", "()I"⟩, 6) := ⟨⟨by decide +kernel, by decide +kernel⟩, List.mem_of_getElem? (i := 175) (by decide +kernel), List.mem_of_getElem? (i := 471) (by decide +kernel), List.mem_of_getElem? (i := 472) (by decide +kernel)⟩
theorem lw_p15 : lw_okq (⟨"GrainLeg$Text", "readAlignment", "()Z"⟩, 6) := ⟨⟨by decide +kernel, by decide +kernel⟩, List.mem_of_getElem? (i := 175) (by decide +kernel), List.mem_of_getElem? (i := 475) (by decide +kernel), List.mem_of_getElem? (i := 476) (by decide +kernel)⟩
def lw_privs_1 : List (MethodName × Nat) := [(⟨"GrainLeg", "recorded", "(I)I"⟩, 9), (⟨"GrainLeg$History", "indexOf", "(I)I"⟩, 3), (⟨"GrainLeg$Leg", "mayBeReset", "()Z"⟩, 13), (⟨"GrainLeg$Leg", "tick", "()V"⟩, 13), (⟨"GrainLeg$Grain", "pourIntoBoot", "(I)V"⟩, 6), (⟨"GrainLeg$Leg", "slipOf", "(I)I"⟩, 13), (⟨"GrainLeg$Leg", "moveOneCell", "()V"⟩, 13), (⟨"GrainLeg$Leg", "rub", "()V"⟩, 13), (⟨"GrainLeg$Leg", "watch", "()V"⟩, 13), (⟨"GrainLeg$Leg", "tripBy", "(I)V"⟩, 13), (⟨"GrainLeg$Text", "readCommand", "()Z"⟩, 6), (⟨"GrainLeg$Text", "next", "()I"⟩, 6), (⟨"GrainLeg$Text", "readValue", "(I)Z"⟩, 6), (⟨"GrainLeg$Text", "readNumber", "(II)Z"⟩, 6), (⟨"GrainLeg$Text", "nextDigit", "()I"⟩, 6), (⟨"GrainLeg$Text", "readAlignment", "()Z"⟩, 6)]
theorem lw_r1 : ∀ q ∈ lw_privs_1, lw_okq q := List.forall_mem_cons.mpr ⟨lw_p0, List.forall_mem_cons.mpr ⟨lw_p1, List.forall_mem_cons.mpr ⟨lw_p2, List.forall_mem_cons.mpr ⟨lw_p3, List.forall_mem_cons.mpr ⟨lw_p4, List.forall_mem_cons.mpr ⟨lw_p5, List.forall_mem_cons.mpr ⟨lw_p6, List.forall_mem_cons.mpr ⟨lw_p7, List.forall_mem_cons.mpr ⟨lw_p8, List.forall_mem_cons.mpr ⟨lw_p9, List.forall_mem_cons.mpr ⟨lw_p10, List.forall_mem_cons.mpr ⟨lw_p11, List.forall_mem_cons.mpr ⟨lw_p12, List.forall_mem_cons.mpr ⟨lw_p13, List.forall_mem_cons.mpr ⟨lw_p14, List.forall_mem_cons.mpr ⟨lw_p15, fun _ h => absurd h List.not_mem_nil⟩⟩⟩⟩⟩⟩⟩⟩⟩⟩⟩⟩⟩⟩⟩⟩
theorem lw_p16 : lw_okq (⟨"GrainLeg$Text", "readComma", "()Z"⟩, 6) := ⟨⟨by decide +kernel, by decide +kernel⟩, List.mem_of_getElem? (i := 175) (by decide +kernel), List.mem_of_getElem? (i := 479) (by decide +kernel), List.mem_of_getElem? (i := 480) (by decide +kernel)⟩
theorem lw_p17 : lw_okq (⟨"GrainLeg", "carryOut", "(CI)I"⟩, 9) := ⟨⟨by decide +kernel, by decide +kernel⟩, List.mem_of_getElem? (i := 12) (by decide +kernel), List.mem_of_getElem? (i := 491) (by decide +kernel), List.mem_of_getElem? (i := 492) (by decide +kernel)⟩
theorem lw_p18 : lw_okq (⟨"GrainLeg$Trips", "told", "([II)I"⟩, 4) := ⟨⟨by decide +kernel, by decide +kernel⟩, List.mem_of_getElem? (i := 83) (by decide +kernel), List.mem_of_getElem? (i := 557) (by decide +kernel), List.mem_of_getElem? (i := 558) (by decide +kernel)⟩
theorem lw_p19 : lw_okq (⟨"GrainLegModel", "refusesSet", "(II)I"⟩, 15) := ⟨⟨by decide +kernel, by decide +kernel⟩, List.mem_of_getElem? (i := 576) (by decide +kernel), List.mem_of_getElem? (i := 632) (by decide +kernel), List.mem_of_getElem? (i := 633) (by decide +kernel)⟩
theorem lw_p20 : lw_okq (⟨"GrainLegModel", "records", "()V"⟩, 15) := ⟨⟨by decide +kernel, by decide +kernel⟩, List.mem_of_getElem? (i := 576) (by decide +kernel), List.mem_of_getElem? (i := 642) (by decide +kernel), List.mem_of_getElem? (i := 643) (by decide +kernel)⟩
theorem lw_p21 : lw_okq (⟨"GrainLegModel", "refusesGate", "(Z)I"⟩, 15) := ⟨⟨by decide +kernel, by decide +kernel⟩, List.mem_of_getElem? (i := 576) (by decide +kernel), List.mem_of_getElem? (i := 650) (by decide +kernel), List.mem_of_getElem? (i := 651) (by decide +kernel)⟩
theorem lw_p22 : lw_okq (⟨"GrainLegModel", "refusesStart", "()I"⟩, 15) := ⟨⟨by decide +kernel, by decide +kernel⟩, List.mem_of_getElem? (i := 576) (by decide +kernel), List.mem_of_getElem? (i := 658) (by decide +kernel), List.mem_of_getElem? (i := 659) (by decide +kernel)⟩
theorem lw_p23 : lw_okq (⟨"GrainLegModel", "load", "()I"⟩, 15) := ⟨⟨by decide +kernel, by decide +kernel⟩, List.mem_of_getElem? (i := 576) (by decide +kernel), List.mem_of_getElem? (i := 662) (by decide +kernel), List.mem_of_getElem? (i := 663) (by decide +kernel)⟩
theorem lw_p24 : lw_okq (⟨"GrainLegModel", "inBuckets", "()I"⟩, 15) := ⟨⟨by decide +kernel, by decide +kernel⟩, List.mem_of_getElem? (i := 576) (by decide +kernel), List.mem_of_getElem? (i := 670) (by decide +kernel), List.mem_of_getElem? (i := 671) (by decide +kernel)⟩
theorem lw_p25 : lw_okq (⟨"GrainLegModel", "refusesReset", "()I"⟩, 15) := ⟨⟨by decide +kernel, by decide +kernel⟩, List.mem_of_getElem? (i := 576) (by decide +kernel), List.mem_of_getElem? (i := 678) (by decide +kernel), List.mem_of_getElem? (i := 679) (by decide +kernel)⟩
theorem lw_p26 : lw_okq (⟨"GrainLegModel", "refusesRun", "(I)I"⟩, 15) := ⟨⟨by decide +kernel, by decide +kernel⟩, List.mem_of_getElem? (i := 576) (by decide +kernel), List.mem_of_getElem? (i := 690) (by decide +kernel), List.mem_of_getElem? (i := 691) (by decide +kernel)⟩
theorem lw_p27 : lw_okq (⟨"GrainLegModel", "ticks", "(I)I"⟩, 15) := ⟨⟨by decide +kernel, by decide +kernel⟩, List.mem_of_getElem? (i := 576) (by decide +kernel), List.mem_of_getElem? (i := 695) (by decide +kernel), List.mem_of_getElem? (i := 696) (by decide +kernel)⟩
theorem lw_p28 : lw_okq (⟨"GrainLegModel", "tick", "()V"⟩, 15) := ⟨⟨by decide +kernel, by decide +kernel⟩, List.mem_of_getElem? (i := 576) (by decide +kernel), List.mem_of_getElem? (i := 699) (by decide +kernel), List.mem_of_getElem? (i := 700) (by decide +kernel)⟩
theorem lw_p29 : lw_okq (⟨"GrainLegModel", "comes", "(I)V"⟩, 15) := ⟨⟨by decide +kernel, by decide +kernel⟩, List.mem_of_getElem? (i := 576) (by decide +kernel), List.mem_of_getElem? (i := 703) (by decide +kernel), List.mem_of_getElem? (i := 704) (by decide +kernel)⟩
theorem lw_p30 : lw_okq (⟨"GrainLegModel", "moves", "()V"⟩, 15) := ⟨⟨by decide +kernel, by decide +kernel⟩, List.mem_of_getElem? (i := 576) (by decide +kernel), List.mem_of_getElem? (i := 707) (by decide +kernel), List.mem_of_getElem? (i := 708) (by decide +kernel)⟩
theorem lw_p31 : lw_okq (⟨"GrainLegModel", "beyond", "()I"⟩, 15) := ⟨⟨by decide +kernel, by decide +kernel⟩, List.mem_of_getElem? (i := 576) (by decide +kernel), List.mem_of_getElem? (i := 711) (by decide +kernel), List.mem_of_getElem? (i := 712) (by decide +kernel)⟩
def lw_privs_2 : List (MethodName × Nat) := [(⟨"GrainLeg$Text", "readComma", "()Z"⟩, 6), (⟨"GrainLeg", "carryOut", "(CI)I"⟩, 9), (⟨"GrainLeg$Trips", "told", "([II)I"⟩, 4), (⟨"GrainLegModel", "refusesSet", "(II)I"⟩, 15), (⟨"GrainLegModel", "records", "()V"⟩, 15), (⟨"GrainLegModel", "refusesGate", "(Z)I"⟩, 15), (⟨"GrainLegModel", "refusesStart", "()I"⟩, 15), (⟨"GrainLegModel", "load", "()I"⟩, 15), (⟨"GrainLegModel", "inBuckets", "()I"⟩, 15), (⟨"GrainLegModel", "refusesReset", "()I"⟩, 15), (⟨"GrainLegModel", "refusesRun", "(I)I"⟩, 15), (⟨"GrainLegModel", "ticks", "(I)I"⟩, 15), (⟨"GrainLegModel", "tick", "()V"⟩, 15), (⟨"GrainLegModel", "comes", "(I)V"⟩, 15), (⟨"GrainLegModel", "moves", "()V"⟩, 15), (⟨"GrainLegModel", "beyond", "()I"⟩, 15)]
theorem lw_r2 : ∀ q ∈ lw_privs_2, lw_okq q := List.forall_mem_cons.mpr ⟨lw_p16, List.forall_mem_cons.mpr ⟨lw_p17, List.forall_mem_cons.mpr ⟨lw_p18, List.forall_mem_cons.mpr ⟨lw_p19, List.forall_mem_cons.mpr ⟨lw_p20, List.forall_mem_cons.mpr ⟨lw_p21, List.forall_mem_cons.mpr ⟨lw_p22, List.forall_mem_cons.mpr ⟨lw_p23, List.forall_mem_cons.mpr ⟨lw_p24, List.forall_mem_cons.mpr ⟨lw_p25, List.forall_mem_cons.mpr ⟨lw_p26, List.forall_mem_cons.mpr ⟨lw_p27, List.forall_mem_cons.mpr ⟨lw_p28, List.forall_mem_cons.mpr ⟨lw_p29, List.forall_mem_cons.mpr ⟨lw_p30, List.forall_mem_cons.mpr ⟨lw_p31, fun _ h => absurd h List.not_mem_nil⟩⟩⟩⟩⟩⟩⟩⟩⟩⟩⟩⟩⟩⟩⟩⟩
theorem lw_p32 : lw_okq (⟨"GrainLegModel", "watches", "()V"⟩, 15) := ⟨⟨by decide +kernel, by decide +kernel⟩, List.mem_of_getElem? (i := 576) (by decide +kernel), List.mem_of_getElem? (i := 715) (by decide +kernel), List.mem_of_getElem? (i := 716) (by decide +kernel)⟩
theorem lw_p33 : lw_okq (⟨"GrainLegModel", "seesTooMuch", "(I)Z"⟩, 15) := ⟨⟨by decide +kernel, by decide +kernel⟩, List.mem_of_getElem? (i := 576) (by decide +kernel), List.mem_of_getElem? (i := 719) (by decide +kernel), List.mem_of_getElem? (i := 720) (by decide +kernel)⟩
theorem lw_p34 : lw_okq (⟨"GrainLegModel", "trips", "(I)V"⟩, 15) := ⟨⟨by decide +kernel, by decide +kernel⟩, List.mem_of_getElem? (i := 576) (by decide +kernel), List.mem_of_getElem? (i := 723) (by decide +kernel), List.mem_of_getElem? (i := 724) (by decide +kernel)⟩
theorem lw_p35 : lw_okq (⟨"GrainLegModel", "reads", "()I"⟩, 15) := ⟨⟨by decide +kernel, by decide +kernel⟩, List.mem_of_getElem? (i := 576) (by decide +kernel), List.mem_of_getElem? (i := 739) (by decide +kernel), List.mem_of_getElem? (i := 740) (by decide +kernel)⟩
theorem lw_p36 : lw_okq (⟨"GrainLegModel", "readsCommand", "()V"⟩, 15) := ⟨⟨by decide +kernel, by decide +kernel⟩, List.mem_of_getElem? (i := 576) (by decide +kernel), List.mem_of_getElem? (i := 743) (by decide +kernel), List.mem_of_getElem? (i := 744) (by decide +kernel)⟩
theorem lw_p37 : lw_okq (⟨"GrainLegModel", "sign", "()I"⟩, 15) := ⟨⟨by decide +kernel, by decide +kernel⟩, List.mem_of_getElem? (i := 576) (by decide +kernel), List.mem_of_getElem? (i := 747) (by decide +kernel), List.mem_of_getElem? (i := 748) (by decide +kernel)⟩
theorem lw_p38 : lw_okq (⟨"GrainLegModel", "valueOf", "(I)I"⟩, 15) := ⟨⟨by decide +kernel, by decide +kernel⟩, List.mem_of_getElem? (i := 576) (by decide +kernel), List.mem_of_getElem? (i := 754) (by decide +kernel), List.mem_of_getElem? (i := 755) (by decide +kernel)⟩
theorem lw_p39 : lw_okq (⟨"GrainLegModel", "number", "(II)I"⟩, 15) := ⟨⟨by decide +kernel, by decide +kernel⟩, List.mem_of_getElem? (i := 576) (by decide +kernel), List.mem_of_getElem? (i := 758) (by decide +kernel), List.mem_of_getElem? (i := 759) (by decide +kernel)⟩
theorem lw_p40 : lw_okq (⟨"GrainLegModel", "alignment", "()I"⟩, 15) := ⟨⟨by decide +kernel, by decide +kernel⟩, List.mem_of_getElem? (i := 576) (by decide +kernel), List.mem_of_getElem? (i := 762) (by decide +kernel), List.mem_of_getElem? (i := 763) (by decide +kernel)⟩
theorem lw_p41 : lw_okq (⟨"GrainLegModel", "putAside", "()V"⟩, 15) := ⟨⟨by decide +kernel, by decide +kernel⟩, List.mem_of_getElem? (i := 576) (by decide +kernel), List.mem_of_getElem? (i := 766) (by decide +kernel), List.mem_of_getElem? (i := 767) (by decide +kernel)⟩
theorem lw_p42 : lw_okq (⟨"GrainLegModel", "does", "(II)I"⟩, 15) := ⟨⟨by decide +kernel, by decide +kernel⟩, List.mem_of_getElem? (i := 576) (by decide +kernel), List.mem_of_getElem? (i := 770) (by decide +kernel), List.mem_of_getElem? (i := 771) (by decide +kernel)⟩
theorem lw_p43 : lw_okq (⟨"GrainLegModel", "takeBack", "()V"⟩, 15) := ⟨⟨by decide +kernel, by decide +kernel⟩, List.mem_of_getElem? (i := 576) (by decide +kernel), List.mem_of_getElem? (i := 777) (by decide +kernel), List.mem_of_getElem? (i := 778) (by decide +kernel)⟩
theorem lw_p44 : lw_okq (⟨"GrainLegModel", "swapsAside", "()V"⟩, 15) := ⟨⟨by decide +kernel, by decide +kernel⟩, List.mem_of_getElem? (i := 576) (by decide +kernel), List.mem_of_getElem? (i := 781) (by decide +kernel), List.mem_of_getElem? (i := 782) (by decide +kernel)⟩
theorem lw_p45 : lw_okq (⟨"GrainLegModel", "untilTrip", "(I)I"⟩, 15) := ⟨⟨by decide +kernel, by decide +kernel⟩, List.mem_of_getElem? (i := 576) (by decide +kernel), List.mem_of_getElem? (i := 813) (by decide +kernel), List.mem_of_getElem? (i := 814) (by decide +kernel)⟩
def lw_privs_3 : List (MethodName × Nat) := [(⟨"GrainLegModel", "watches", "()V"⟩, 15), (⟨"GrainLegModel", "seesTooMuch", "(I)Z"⟩, 15), (⟨"GrainLegModel", "trips", "(I)V"⟩, 15), (⟨"GrainLegModel", "reads", "()I"⟩, 15), (⟨"GrainLegModel", "readsCommand", "()V"⟩, 15), (⟨"GrainLegModel", "sign", "()I"⟩, 15), (⟨"GrainLegModel", "valueOf", "(I)I"⟩, 15), (⟨"GrainLegModel", "number", "(II)I"⟩, 15), (⟨"GrainLegModel", "alignment", "()I"⟩, 15), (⟨"GrainLegModel", "putAside", "()V"⟩, 15), (⟨"GrainLegModel", "does", "(II)I"⟩, 15), (⟨"GrainLegModel", "takeBack", "()V"⟩, 15), (⟨"GrainLegModel", "swapsAside", "()V"⟩, 15), (⟨"GrainLegModel", "untilTrip", "(I)I"⟩, 15)]
theorem lw_r3 : ∀ q ∈ lw_privs_3, lw_okq q := List.forall_mem_cons.mpr ⟨lw_p32, List.forall_mem_cons.mpr ⟨lw_p33, List.forall_mem_cons.mpr ⟨lw_p34, List.forall_mem_cons.mpr ⟨lw_p35, List.forall_mem_cons.mpr ⟨lw_p36, List.forall_mem_cons.mpr ⟨lw_p37, List.forall_mem_cons.mpr ⟨lw_p38, List.forall_mem_cons.mpr ⟨lw_p39, List.forall_mem_cons.mpr ⟨lw_p40, List.forall_mem_cons.mpr ⟨lw_p41, List.forall_mem_cons.mpr ⟨lw_p42, List.forall_mem_cons.mpr ⟨lw_p43, List.forall_mem_cons.mpr ⟨lw_p44, List.forall_mem_cons.mpr ⟨lw_p45, fun _ h => absurd h List.not_mem_nil⟩⟩⟩⟩⟩⟩⟩⟩⟩⟩⟩⟩⟩⟩
def lw_privs : List (MethodName × Nat) := lw_privs_1 ++ (lw_privs_2 ++ (lw_privs_3))
def lw_tbl : List Cond := k2_sels lw_privs ++ tables_1
theorem lw_privs_ok : ∀ q ∈ lw_privs, lw_okq q := by
  show ∀ q ∈ lw_privs_1 ++ (lw_privs_2 ++ (lw_privs_3)), lw_okq q
  exact List.forall_mem_append.mpr ⟨lw_r1, List.forall_mem_append.mpr ⟨lw_r2, lw_r3⟩⟩
def RX0 : String := "GrainLeg$Belt"
def TX0 : u_T := fun k => match k with
  | 0 => ("GrainLeg$Belt", "row", "[I", true)
  | _ => ("GrainLeg$Belt", "inBoot", "I", false)
def tyX0 : Nat → FieldType := fun k => match k with
  | 0 => .array .int
  | _ => .int
theorem nmX0 : ∀ a, a < 2 → ∀ b, b < 2 → a ≠ b → (TX0 a).2.1 ≠ (TX0 b).2.1 := by decide +kernel
theorem tyX0_ok : ∀ k, k < 2 → parseFieldDescriptor (TX0 k).2.2.1 = some (tyX0 k) := by decide +kernel
abbrev cX0_init : ByteArray := prog_2_method_1_code
def yX0_init : MethodName := ⟨RX0, "<init>", "()V"⟩
abbrev cX0_become : ByteArray := prog_2_method_2_code
def yX0_become : MethodName := ⟨RX0, "become", "(LGrainLeg$Belt;)V"⟩
abbrev cX0_at : ByteArray := prog_2_method_3_code
def yX0_at : MethodName := ⟨RX0, "at", "(I)I"⟩
abbrev cX0_moveOn : ByteArray := prog_2_method_4_code
def yX0_moveOn : MethodName := ⟨RX0, "moveOn", "()V"⟩
abbrev cX0_emptyAtHead : ByteArray := prog_2_method_5_code
def yX0_emptyAtHead : MethodName := ⟨RX0, "emptyAtHead", "()I"⟩
abbrev cX0_fillInBoot : ByteArray := prog_2_method_6_code
def yX0_fillInBoot : MethodName := ⟨RX0, "fillInBoot", "(II)I"⟩
abbrev cX0_onTheWayUp : ByteArray := prog_2_method_7_code
def yX0_onTheWayUp : MethodName := ⟨RX0, "onTheWayUp", "()I"⟩
abbrev cX0_onAll : ByteArray := prog_2_method_8_code
def yX0_onAll : MethodName := ⟨RX0, "onAll", "()I"⟩
def RX1 : String := "GrainLeg$Grain"
def TX1 : u_T := fun k => match k with
  | 0 => ("GrainLeg$Grain", "boot", "I", false)
  | 1 => ("GrainLeg$Grain", "given", "I", false)
  | 2 => ("GrainLeg$Grain", "spilt", "I", false)
  | 3 => ("GrainLeg$Grain", "fed", "I", false)
  | 4 => ("GrainLeg$Grain", "takenByHand", "I", false)
  | _ => ("GrainLeg$Grain", "fallenBack", "I", false)
def tyX1 : Nat → FieldType := fun k => match k with
  | 0 => .int
  | 1 => .int
  | 2 => .int
  | 3 => .int
  | 4 => .int
  | _ => .int
theorem nmX1 : ∀ a, a < 6 → ∀ b, b < 6 → a ≠ b → (TX1 a).2.1 ≠ (TX1 b).2.1 := by decide +kernel
theorem tyX1_ok : ∀ k, k < 6 → parseFieldDescriptor (TX1 k).2.2.1 = some (tyX1 k) := by decide +kernel
abbrev cX1_init : ByteArray := prog_3_method_1_code
def yX1_init : MethodName := ⟨RX1, "<init>", "()V"⟩
abbrev cX1_become : ByteArray := prog_3_method_2_code
def yX1_become : MethodName := ⟨RX1, "become", "(LGrainLeg$Grain;)V"⟩
abbrev cX1_feedIn : ByteArray := prog_3_method_3_code
def yX1_feedIn : MethodName := ⟨RX1, "feedIn", "(I)V"⟩
abbrev cX1_fallBack : ByteArray := prog_3_method_4_code
def yX1_fallBack : MethodName := ⟨RX1, "fallBack", "(I)V"⟩
abbrev cX1_pourIntoBoot : ByteArray := prog_3_method_5_code
def yX1_pourIntoBoot : MethodName := ⟨RX1, "pourIntoBoot", "(I)V"⟩
def RX2 : String := "GrainLeg$History"
def TX2 : u_T := fun k => match k with
  | 0 => ("GrainLeg$History", "states", "[LGrainLeg$Leg;", true)
  | 1 => ("GrainLeg$History", "oldest", "I", false)
  | _ => ("GrainLeg$History", "size", "I", false)
def tyX2 : Nat → FieldType := fun k => match k with
  | 0 => .array (.object "GrainLeg$Leg")
  | 1 => .int
  | _ => .int
theorem nmX2 : ∀ a, a < 3 → ∀ b, b < 3 → a ≠ b → (TX2 a).2.1 ≠ (TX2 b).2.1 := by decide +kernel
theorem tyX2_ok : ∀ k, k < 3 → parseFieldDescriptor (TX2 k).2.2.1 = some (tyX2 k) := by decide +kernel
abbrev cX2_init : ByteArray := prog_4_method_1_code
def yX2_init : MethodName := ⟨RX2, "<init>", "()V"⟩
abbrev cX2_indexOf : ByteArray := prog_4_method_2_code
def yX2_indexOf : MethodName := ⟨RX2, "indexOf", "(I)I"⟩
abbrev cX2_remember : ByteArray := prog_4_method_3_code
def yX2_remember : MethodName := ⟨RX2, "remember", "(LGrainLeg$Leg;)V"⟩
abbrev cX2_takeBack : ByteArray := prog_4_method_4_code
def yX2_takeBack : MethodName := ⟨RX2, "takeBack", "(LGrainLeg$Leg;)Z"⟩
def RX3 : String := "GrainLeg$Leg"
def TX3 : u_T := fun k => match k with
  | 0 => ("GrainLeg$Leg", "numbers", "[I", true)
  | 1 => ("GrainLeg$Leg", "belt", "LGrainLeg$Belt;", true)
  | 2 => ("GrainLeg$Leg", "grain", "LGrainLeg$Grain;", true)
  | 3 => ("GrainLeg$Leg", "trips", "LGrainLeg$Trips;", true)
  | 4 => ("GrainLeg$Leg", "tooLong", "[I", true)
  | 5 => ("GrainLeg$Leg", "tripsOf", "[I", true)
  | 6 => ("GrainLeg$Leg", "runs", "Z", false)
  | 7 => ("GrainLeg$Leg", "gateOpen", "Z", false)
  | 8 => ("GrainLeg$Leg", "slip", "I", false)
  | 9 => ("GrainLeg$Leg", "cells", "I", false)
  | 10 => ("GrainLeg$Leg", "warmth", "I", false)
  | 11 => ("GrainLeg$Leg", "reason", "I", false)
  | _ => ("GrainLeg$Leg", "ticks", "I", false)
def tyX3 : Nat → FieldType := fun k => match k with
  | 0 => .array .int
  | 1 => .object "GrainLeg$Belt"
  | 2 => .object "GrainLeg$Grain"
  | 3 => .object "GrainLeg$Trips"
  | 4 => .array .int
  | 5 => .array .int
  | 6 => .boolean
  | 7 => .boolean
  | 8 => .int
  | 9 => .int
  | 10 => .int
  | 11 => .int
  | _ => .int
theorem nmX3 : ∀ a, a < 13 → ∀ b, b < 13 → a ≠ b → (TX3 a).2.1 ≠ (TX3 b).2.1 := by decide +kernel
theorem tyX3_ok : ∀ k, k < 13 → parseFieldDescriptor (TX3 k).2.2.1 = some (tyX3 k) := by decide +kernel
abbrev cX3_init : ByteArray := prog_5_method_1_code
def yX3_init : MethodName := ⟨RX3, "<init>", "()V"⟩
abbrev cX3_become : ByteArray := prog_5_method_2_code
def yX3_become : MethodName := ⟨RX3, "become", "(LGrainLeg$Leg;)V"⟩
abbrev cX3_setNumber : ByteArray := prog_5_method_3_code
def yX3_setNumber : MethodName := ⟨RX3, "setNumber", "(II)I"⟩
abbrev cX3_moveGate : ByteArray := prog_5_method_4_code
def yX3_moveGate : MethodName := ⟨RX3, "moveGate", "(Z)I"⟩
abbrev cX3_switchOn : ByteArray := prog_5_method_5_code
def yX3_switchOn : MethodName := ⟨RX3, "switchOn", "()I"⟩
abbrev cX3_switchOff : ByteArray := prog_5_method_6_code
def yX3_switchOff : MethodName := ⟨RX3, "switchOff", "()I"⟩
abbrev cX3_forgetReason : ByteArray := prog_5_method_7_code
def yX3_forgetReason : MethodName := ⟨RX3, "forgetReason", "()I"⟩
abbrev cX3_mayBeReset : ByteArray := prog_5_method_8_code
def yX3_mayBeReset : MethodName := ⟨RX3, "mayBeReset", "()Z"⟩
abbrev cX3_takeByHand : ByteArray := prog_5_method_9_code
def yX3_takeByHand : MethodName := ⟨RX3, "takeByHand", "(I)I"⟩
abbrev cX3_passTicks : ByteArray := prog_5_method_10_code
def yX3_passTicks : MethodName := ⟨RX3, "passTicks", "(I)I"⟩
abbrev cX3_ticksUntilTrip : ByteArray := prog_5_method_11_code
def yX3_ticksUntilTrip : MethodName := ⟨RX3, "ticksUntilTrip", "(I)I"⟩
abbrev cX3_load : ByteArray := prog_5_method_12_code
def yX3_load : MethodName := ⟨RX3, "load", "()I"⟩
abbrev cX3_seenBy : ByteArray := prog_5_method_13_code
def yX3_seenBy : MethodName := ⟨RX3, "seenBy", "(I)I"⟩
abbrev cX3_tick : ByteArray := prog_5_method_14_code
def yX3_tick : MethodName := ⟨RX3, "tick", "()V"⟩
abbrev cX3_slipOf : ByteArray := prog_5_method_15_code
def yX3_slipOf : MethodName := ⟨RX3, "slipOf", "(I)I"⟩
abbrev cX3_moveOneCell : ByteArray := prog_5_method_16_code
def yX3_moveOneCell : MethodName := ⟨RX3, "moveOneCell", "()V"⟩
abbrev cX3_rub : ByteArray := prog_5_method_17_code
def yX3_rub : MethodName := ⟨RX3, "rub", "()V"⟩
abbrev cX3_watch : ByteArray := prog_5_method_18_code
def yX3_watch : MethodName := ⟨RX3, "watch", "()V"⟩
abbrev cX3_tripBy : ByteArray := prog_5_method_19_code
def yX3_tripBy : MethodName := ⟨RX3, "tripBy", "(I)V"⟩
def RX4 : String := "GrainLeg$Text"
def TX4 : u_T := fun k => match k with
  | 0 => ("GrainLeg$Text", "characters", "[C", true)
  | 1 => ("GrainLeg$Text", "length", "I", false)
  | 2 => ("GrainLeg$Text", "letters", "[C", true)
  | 3 => ("GrainLeg$Text", "values", "[I", true)
  | 4 => ("GrainLeg$Text", "commands", "I", false)
  | _ => ("GrainLeg$Text", "reading", "I", false)
def tyX4 : Nat → FieldType := fun k => match k with
  | 0 => .array .char
  | 1 => .int
  | 2 => .array .char
  | 3 => .array .int
  | 4 => .int
  | _ => .int
theorem nmX4 : ∀ a, a < 6 → ∀ b, b < 6 → a ≠ b → (TX4 a).2.1 ≠ (TX4 b).2.1 := by decide +kernel
theorem tyX4_ok : ∀ k, k < 6 → parseFieldDescriptor (TX4 k).2.2.1 = some (tyX4 k) := by decide +kernel
abbrev cX4_init : ByteArray := prog_6_method_1_code
def yX4_init : MethodName := ⟨RX4, "<init>", "()V"⟩
abbrev cX4_append : ByteArray := prog_6_method_2_code
def yX4_append : MethodName := ⟨RX4, "append", "(C)I"⟩
abbrev cX4_empty : ByteArray := prog_6_method_3_code
def yX4_empty : MethodName := ⟨RX4, "empty", "()I"⟩
abbrev cX4_letterOf : ByteArray := prog_6_method_4_code
def yX4_letterOf : MethodName := ⟨RX4, "letterOf", "(I)C"⟩
abbrev cX4_valueOf : ByteArray := prog_6_method_5_code
def yX4_valueOf : MethodName := ⟨RX4, "valueOf", "(I)I"⟩
abbrev cX4_read : ByteArray := prog_6_method_6_code
def yX4_read : MethodName := ⟨RX4, "read", "()I"⟩
abbrev cX4_next : ByteArray := prog_6_method_7_code
def yX4_next : MethodName := ⟨RX4, "next", "()I"⟩
abbrev cX4_nextDigit : ByteArray := prog_6_method_8_code
def yX4_nextDigit : MethodName := ⟨RX4, "nextDigit", "()I"⟩
abbrev cX4_readComma : ByteArray := prog_6_method_9_code
def yX4_readComma : MethodName := ⟨RX4, "readComma", "()Z"⟩
abbrev cX4_readCommand : ByteArray := prog_6_method_10_code
def yX4_readCommand : MethodName := ⟨RX4, "readCommand", "()Z"⟩
abbrev cX4_isLetterOfCommand : ByteArray := prog_6_method_11_code
def yX4_isLetterOfCommand : MethodName := ⟨RX4, "isLetterOfCommand", "(I)Z"⟩
abbrev cX4_readValue : ByteArray := prog_6_method_12_code
def yX4_readValue : MethodName := ⟨RX4, "readValue", "(I)Z"⟩
abbrev cX4_readNumber : ByteArray := prog_6_method_13_code
def yX4_readNumber : MethodName := ⟨RX4, "readNumber", "(II)Z"⟩
abbrev cX4_readAlignment : ByteArray := prog_6_method_14_code
def yX4_readAlignment : MethodName := ⟨RX4, "readAlignment", "()Z"⟩
def RX5 : String := "GrainLeg$Trips"
def TX5 : u_T := fun k => match k with
  | 0 => ("GrainLeg$Trips", "ticks", "[I", true)
  | 1 => ("GrainLeg$Trips", "sensors", "[I", true)
  | 2 => ("GrainLeg$Trips", "loads", "[I", true)
  | _ => ("GrainLeg$Trips", "size", "I", false)
def tyX5 : Nat → FieldType := fun k => match k with
  | 0 => .array .int
  | 1 => .array .int
  | 2 => .array .int
  | _ => .int
theorem nmX5 : ∀ a, a < 4 → ∀ b, b < 4 → a ≠ b → (TX5 a).2.1 ≠ (TX5 b).2.1 := by decide +kernel
theorem tyX5_ok : ∀ k, k < 4 → parseFieldDescriptor (TX5 k).2.2.1 = some (tyX5 k) := by decide +kernel
abbrev cX5_init : ByteArray := prog_7_method_1_code
def yX5_init : MethodName := ⟨RX5, "<init>", "()V"⟩
abbrev cX5_become : ByteArray := prog_7_method_2_code
def yX5_become : MethodName := ⟨RX5, "become", "(LGrainLeg$Trips;)V"⟩
abbrev cX5_note : ByteArray := prog_7_method_3_code
def yX5_note : MethodName := ⟨RX5, "note", "(III)V"⟩
abbrev cX5_tickOf : ByteArray := prog_7_method_4_code
def yX5_tickOf : MethodName := ⟨RX5, "tickOf", "(I)I"⟩
abbrev cX5_sensorOf : ByteArray := prog_7_method_5_code
def yX5_sensorOf : MethodName := ⟨RX5, "sensorOf", "(I)I"⟩
abbrev cX5_loadOf : ByteArray := prog_7_method_6_code
def yX5_loadOf : MethodName := ⟨RX5, "loadOf", "(I)I"⟩
abbrev cX5_told : ByteArray := prog_7_method_7_code
def yX5_told : MethodName := ⟨RX5, "told", "([II)I"⟩
def RX6 : String := "GrainLeg"
def TX6 : u_T := fun k => match k with
  | 0 => ("GrainLeg", "leg", "LGrainLeg$Leg;", true)
  | 1 => ("GrainLeg", "before", "LGrainLeg$Leg;", true)
  | 2 => ("GrainLeg", "trial", "LGrainLeg$Leg;", true)
  | 3 => ("GrainLeg", "history", "LGrainLeg$History;", true)
  | 4 => ("GrainLeg", "snapshot", "LGrainLeg$Leg;", true)
  | 5 => ("GrainLeg", "hasSnapshot", "Z", false)
  | 6 => ("GrainLeg", "text", "LGrainLeg$Text;", true)
  | 7 => ("GrainLeg", "stopCommand", "I", false)
  | _ => ("GrainLeg", "stopError", "I", false)
def tyX6 : Nat → FieldType := fun k => match k with
  | 0 => .object "GrainLeg$Leg"
  | 1 => .object "GrainLeg$Leg"
  | 2 => .object "GrainLeg$Leg"
  | 3 => .object "GrainLeg$History"
  | 4 => .object "GrainLeg$Leg"
  | 5 => .boolean
  | 6 => .object "GrainLeg$Text"
  | 7 => .int
  | _ => .int
theorem nmX6 : ∀ a, a < 9 → ∀ b, b < 9 → a ≠ b → (TX6 a).2.1 ≠ (TX6 b).2.1 := by decide +kernel
theorem tyX6_ok : ∀ k, k < 9 → parseFieldDescriptor (TX6 k).2.2.1 = some (tyX6 k) := by decide +kernel
abbrev cX6_init : ByteArray := prog_1_method_1_code
def yX6_init : MethodName := ⟨RX6, "<init>", "()V"⟩
abbrev cX6_set : ByteArray := prog_1_method_2_code
def yX6_set : MethodName := ⟨RX6, "set", "(II)I"⟩
abbrev cX6_gate : ByteArray := prog_1_method_3_code
def yX6_gate : MethodName := ⟨RX6, "gate", "(Z)I"⟩
abbrev cX6_start : ByteArray := prog_1_method_4_code
def yX6_start : MethodName := ⟨RX6, "start", "()I"⟩
abbrev cX6_stop : ByteArray := prog_1_method_5_code
def yX6_stop : MethodName := ⟨RX6, "stop", "()I"⟩
abbrev cX6_reset : ByteArray := prog_1_method_6_code
def yX6_reset : MethodName := ⟨RX6, "reset", "()I"⟩
abbrev cX6_clean : ByteArray := prog_1_method_7_code
def yX6_clean : MethodName := ⟨RX6, "clean", "(I)I"⟩
abbrev cX6_run : ByteArray := prog_1_method_8_code
def yX6_run : MethodName := ⟨RX6, "run", "(I)I"⟩
abbrev cX6_type : ByteArray := prog_1_method_9_code
def yX6_type : MethodName := ⟨RX6, "type", "(C)I"⟩
abbrev cX6_clearText : ByteArray := prog_1_method_10_code
def yX6_clearText : MethodName := ⟨RX6, "clearText", "()I"⟩
abbrev cX6_perform : ByteArray := prog_1_method_11_code
def yX6_perform : MethodName := ⟨RX6, "perform", "()I"⟩
abbrev cX6_stopped : ByteArray := prog_1_method_12_code
def yX6_stopped : MethodName := ⟨RX6, "stopped", "(I)I"⟩
abbrev cX6_undo : ByteArray := prog_1_method_13_code
def yX6_undo : MethodName := ⟨RX6, "undo", "()I"⟩
abbrev cX6_keep : ByteArray := prog_1_method_14_code
def yX6_keep : MethodName := ⟨RX6, "keep", "()I"⟩
abbrev cX6_restore : ByteArray := prog_1_method_15_code
def yX6_restore : MethodName := ⟨RX6, "restore", "()I"⟩
abbrev cX6_bucket : ByteArray := prog_1_method_16_code
def yX6_bucket : MethodName := ⟨RX6, "bucket", "(I)I"⟩
abbrev cX6_sensor : ByteArray := prog_1_method_17_code
def yX6_sensor : MethodName := ⟨RX6, "sensor", "(II)I"⟩
abbrev cX6_tripsIn : ByteArray := prog_1_method_18_code
def yX6_tripsIn : MethodName := ⟨RX6, "tripsIn", "()I"⟩
abbrev cX6_ifTension : ByteArray := prog_1_method_19_code
def yX6_ifTension : MethodName := ⟨RX6, "ifTension", "(II)I"⟩
abbrev cX6_leastTension : ByteArray := prog_1_method_20_code
def yX6_leastTension : MethodName := ⟨RX6, "leastTension", "(I)I"⟩
abbrev cX6_trip : ByteArray := prog_1_method_21_code
def yX6_trip : MethodName := ⟨RX6, "trip", "(II)I"⟩
abbrev cX6_count : ByteArray := prog_1_method_22_code
def yX6_count : MethodName := ⟨RX6, "count", "(I)I"⟩
abbrev cX6_recorded : ByteArray := prog_1_method_23_code
def yX6_recorded : MethodName := ⟨RX6, "recorded", "(I)I"⟩
abbrev cX6_carryOut : ByteArray := prog_1_method_24_code
def yX6_carryOut : MethodName := ⟨RX6, "carryOut", "(CI)I"⟩
abbrev cX6_isError : ByteArray := prog_1_method_25_code
def yX6_isError : MethodName := ⟨RX6, "isError", "(I)Z"⟩
abbrev cX6_isWithin : ByteArray := prog_1_method_26_code
def yX6_isWithin : MethodName := ⟨RX6, "isWithin", "(III)Z"⟩
def RX7 : String := "GrainLegModel"
def TX7 : u_T := fun k => match k with
  | 0 => ("GrainLegModel", "thrown", "I", false)
  | 1 => ("GrainLegModel", "s", "[I", true)
  | 2 => ("GrainLegModel", "aside", "[I", true)
  | 3 => ("GrainLegModel", "saved", "[I", true)
  | 4 => ("GrainLegModel", "savedMany", "I", false)
  | 5 => ("GrainLegModel", "snapshot", "[I", true)
  | 6 => ("GrainLegModel", "hasSnapshot", "Z", false)
  | 7 => ("GrainLegModel", "text", "[I", true)
  | 8 => ("GrainLegModel", "length", "I", false)
  | 9 => ("GrainLegModel", "stoppedAt", "I", false)
  | 10 => ("GrainLegModel", "stoppedBy", "I", false)
  | 11 => ("GrainLegModel", "at", "I", false)
  | 12 => ("GrainLegModel", "isWell", "Z", false)
  | 13 => ("GrainLegModel", "commands", "[I", true)
  | _ => ("GrainLegModel", "commandMany", "I", false)
def tyX7 : Nat → FieldType := fun k => match k with
  | 0 => .int
  | 1 => .array .int
  | 2 => .array .int
  | 3 => .array .int
  | 4 => .int
  | 5 => .array .int
  | 6 => .boolean
  | 7 => .array .int
  | 8 => .int
  | 9 => .int
  | 10 => .int
  | 11 => .int
  | 12 => .boolean
  | 13 => .array .int
  | _ => .int
theorem nmX7 : ∀ a, a < 15 → ∀ b, b < 15 → a ≠ b → (TX7 a).2.1 ≠ (TX7 b).2.1 := by decide +kernel
theorem tyX7_ok : ∀ k, k < 15 → parseFieldDescriptor (TX7 k).2.2.1 = some (tyX7 k) := by decide +kernel
abbrev cX7_init : ByteArray := prog_9_method_1_code
def yX7_init : MethodName := ⟨RX7, "<init>", "()V"⟩
abbrev cX7_in : ByteArray := prog_9_method_3_code
def yX7_in : MethodName := ⟨RX7, "in", "(III)Z"⟩
abbrev cX7_records : ByteArray := prog_9_method_4_code
def yX7_records : MethodName := ⟨RX7, "records", "()V"⟩
abbrev cX7_putAside : ByteArray := prog_9_method_5_code
def yX7_putAside : MethodName := ⟨RX7, "putAside", "()V"⟩
abbrev cX7_takeBack : ByteArray := prog_9_method_6_code
def yX7_takeBack : MethodName := ⟨RX7, "takeBack", "()V"⟩
abbrev cX7_load : ByteArray := prog_9_method_7_code
def yX7_load : MethodName := ⟨RX7, "load", "()I"⟩
abbrev cX7_comes : ByteArray := prog_9_method_8_code
def yX7_comes : MethodName := ⟨RX7, "comes", "(I)V"⟩
abbrev cX7_moves : ByteArray := prog_9_method_9_code
def yX7_moves : MethodName := ⟨RX7, "moves", "()V"⟩
abbrev cX7_beyond : ByteArray := prog_9_method_10_code
def yX7_beyond : MethodName := ⟨RX7, "beyond", "()I"⟩
abbrev cX7_seesTooMuch : ByteArray := prog_9_method_11_code
def yX7_seesTooMuch : MethodName := ⟨RX7, "seesTooMuch", "(I)Z"⟩
abbrev cX7_trips : ByteArray := prog_9_method_12_code
def yX7_trips : MethodName := ⟨RX7, "trips", "(I)V"⟩
abbrev cX7_watches : ByteArray := prog_9_method_13_code
def yX7_watches : MethodName := ⟨RX7, "watches", "()V"⟩
abbrev cX7_tick : ByteArray := prog_9_method_14_code
def yX7_tick : MethodName := ⟨RX7, "tick", "()V"⟩
abbrev cX7_ticks : ByteArray := prog_9_method_15_code
def yX7_ticks : MethodName := ⟨RX7, "ticks", "(I)I"⟩
abbrev cX7_isNumber : ByteArray := prog_9_method_16_code
def yX7_isNumber : MethodName := ⟨RX7, "isNumber", "(II)Z"⟩
abbrev cX7_refusesSet : ByteArray := prog_9_method_17_code
def yX7_refusesSet : MethodName := ⟨RX7, "refusesSet", "(II)I"⟩
abbrev cX7_refusesGate : ByteArray := prog_9_method_18_code
def yX7_refusesGate : MethodName := ⟨RX7, "refusesGate", "(Z)I"⟩
abbrev cX7_refusesStart : ByteArray := prog_9_method_19_code
def yX7_refusesStart : MethodName := ⟨RX7, "refusesStart", "()I"⟩
abbrev cX7_refusesReset : ByteArray := prog_9_method_20_code
def yX7_refusesReset : MethodName := ⟨RX7, "refusesReset", "()I"⟩
abbrev cX7_refusesRun : ByteArray := prog_9_method_21_code
def yX7_refusesRun : MethodName := ⟨RX7, "refusesRun", "(I)I"⟩
abbrev cX7_inBuckets : ByteArray := prog_9_method_22_code
def yX7_inBuckets : MethodName := ⟨RX7, "inBuckets", "()I"⟩
abbrev cX7_set : ByteArray := prog_9_method_23_code
def yX7_set : MethodName := ⟨RX7, "set", "(II)I"⟩
abbrev cX7_gate : ByteArray := prog_9_method_24_code
def yX7_gate : MethodName := ⟨RX7, "gate", "(Z)I"⟩
abbrev cX7_start : ByteArray := prog_9_method_25_code
def yX7_start : MethodName := ⟨RX7, "start", "()I"⟩
abbrev cX7_stop : ByteArray := prog_9_method_26_code
def yX7_stop : MethodName := ⟨RX7, "stop", "()I"⟩
abbrev cX7_reset : ByteArray := prog_9_method_27_code
def yX7_reset : MethodName := ⟨RX7, "reset", "()I"⟩
abbrev cX7_clean : ByteArray := prog_9_method_28_code
def yX7_clean : MethodName := ⟨RX7, "clean", "(I)I"⟩
abbrev cX7_run : ByteArray := prog_9_method_29_code
def yX7_run : MethodName := ⟨RX7, "run", "(I)I"⟩
abbrev cX7_type : ByteArray := prog_9_method_30_code
def yX7_type : MethodName := ⟨RX7, "type", "(C)I"⟩
abbrev cX7_clearText : ByteArray := prog_9_method_31_code
def yX7_clearText : MethodName := ⟨RX7, "clearText", "()I"⟩
abbrev cX7_sign : ByteArray := prog_9_method_32_code
def yX7_sign : MethodName := ⟨RX7, "sign", "()I"⟩
abbrev cX7_number : ByteArray := prog_9_method_33_code
def yX7_number : MethodName := ⟨RX7, "number", "(II)I"⟩
abbrev cX7_alignment : ByteArray := prog_9_method_34_code
def yX7_alignment : MethodName := ⟨RX7, "alignment", "()I"⟩
abbrev cX7_valueOf : ByteArray := prog_9_method_35_code
def yX7_valueOf : MethodName := ⟨RX7, "valueOf", "(I)I"⟩
abbrev cX7_isLetter : ByteArray := prog_9_method_36_code
def yX7_isLetter : MethodName := ⟨RX7, "isLetter", "(I)Z"⟩
abbrev cX7_readsCommand : ByteArray := prog_9_method_37_code
def yX7_readsCommand : MethodName := ⟨RX7, "readsCommand", "()V"⟩
abbrev cX7_reads : ByteArray := prog_9_method_38_code
def yX7_reads : MethodName := ⟨RX7, "reads", "()I"⟩
abbrev cX7_whichOf : ByteArray := prog_9_method_39_code
def yX7_whichOf : MethodName := ⟨RX7, "whichOf", "(I)I"⟩
abbrev cX7_does : ByteArray := prog_9_method_40_code
def yX7_does : MethodName := ⟨RX7, "does", "(II)I"⟩
abbrev cX7_perform : ByteArray := prog_9_method_41_code
def yX7_perform : MethodName := ⟨RX7, "perform", "()I"⟩
abbrev cX7_swapsAside : ByteArray := prog_9_method_42_code
def yX7_swapsAside : MethodName := ⟨RX7, "swapsAside", "()V"⟩
abbrev cX7_stopped : ByteArray := prog_9_method_43_code
def yX7_stopped : MethodName := ⟨RX7, "stopped", "(I)I"⟩
abbrev cX7_undo : ByteArray := prog_9_method_44_code
def yX7_undo : MethodName := ⟨RX7, "undo", "()I"⟩
abbrev cX7_keep : ByteArray := prog_9_method_45_code
def yX7_keep : MethodName := ⟨RX7, "keep", "()I"⟩
abbrev cX7_restore : ByteArray := prog_9_method_46_code
def yX7_restore : MethodName := ⟨RX7, "restore", "()I"⟩
abbrev cX7_bucket : ByteArray := prog_9_method_47_code
def yX7_bucket : MethodName := ⟨RX7, "bucket", "(I)I"⟩
abbrev cX7_sensor : ByteArray := prog_9_method_48_code
def yX7_sensor : MethodName := ⟨RX7, "sensor", "(II)I"⟩
abbrev cX7_untilTrip : ByteArray := prog_9_method_49_code
def yX7_untilTrip : MethodName := ⟨RX7, "untilTrip", "(I)I"⟩
abbrev cX7_tripsIn : ByteArray := prog_9_method_50_code
def yX7_tripsIn : MethodName := ⟨RX7, "tripsIn", "()I"⟩
abbrev cX7_ifTension : ByteArray := prog_9_method_51_code
def yX7_ifTension : MethodName := ⟨RX7, "ifTension", "(II)I"⟩
abbrev cX7_leastTension : ByteArray := prog_9_method_52_code
def yX7_leastTension : MethodName := ⟨RX7, "leastTension", "(I)I"⟩
abbrev cX7_trip : ByteArray := prog_9_method_53_code
def yX7_trip : MethodName := ⟨RX7, "trip", "(II)I"⟩
abbrev cX7_count : ByteArray := prog_9_method_54_code
def yX7_count : MethodName := ⟨RX7, "count", "(I)I"⟩
def RJx8e188 : String := "java/lang/Cloneable"
def TJx8e188 : u_T := fun k => match k with
  | _ => ("", "", "", false)
def tyJx8e188 : Nat → FieldType := fun k => match k with
  | _ => .int
theorem nmJx8e188 : ∀ a, a < 0 → ∀ b, b < 0 → a ≠ b → (TJx8e188 a).2.1 ≠ (TJx8e188 b).2.1 := by decide +kernel
theorem tyJx8e188_ok : ∀ k, k < 0 → parseFieldDescriptor (TJx8e188 k).2.2.1 = some (tyJx8e188 k) := by decide +kernel
def RJ9 : String := "java/lang/Math"
def TJ9 : u_T := fun k => match k with
  | _ => ("", "", "", false)
def tyJ9 : Nat → FieldType := fun k => match k with
  | _ => .int
theorem nmJ9 : ∀ a, a < 0 → ∀ b, b < 0 → a ≠ b → (TJ9 a).2.1 ≠ (TJ9 b).2.1 := by decide +kernel
theorem tyJ9_ok : ∀ k, k < 0 → parseFieldDescriptor (TJ9 k).2.2.1 = some (tyJ9 k) := by decide +kernel
abbrev cJ9_floorMod_7cf53 : ByteArray := prog_11_method_50_code
def yJ9_floorMod_7cf53 : MethodName := ⟨RJ9, "floorMod", "(II)I"⟩
abbrev cJ9_abs_0f7a4 : ByteArray := prog_11_method_59_code
def yJ9_abs_0f7a4 : MethodName := ⟨RJ9, "abs", "(I)I"⟩
abbrev cJ9_max_7cf53 : ByteArray := prog_11_method_65_code
def yJ9_max_7cf53 : MethodName := ⟨RJ9, "max", "(II)I"⟩
abbrev cJ9_min_7cf53 : ByteArray := prog_11_method_69_code
def yJ9_min_7cf53 : MethodName := ⟨RJ9, "min", "(II)I"⟩
def RJ10 : String := "java/lang/System"
def TJ10 : u_T := fun k => match k with
  | _ => ("", "", "", false)
def tyJ10 : Nat → FieldType := fun k => match k with
  | _ => .int
theorem nmJ10 : ∀ a, a < 0 → ∀ b, b < 0 → a ≠ b → (TJ10 a).2.1 ≠ (TJ10 b).2.1 := by decide +kernel
theorem tyJ10_ok : ∀ k, k < 0 → parseFieldDescriptor (TJ10 k).2.2.1 = some (tyJ10 k) := by decide +kernel
def RL : String := "GrainLegLaw"
abbrev cL_law : ByteArray := code
def yL_law : MethodName := ⟨RL, "law", "([I)Z"⟩
abbrev vwCl : List vw_C := [(RX0, TX0, 2), (RX1, TX1, 6), (RX2, TX2, 3), (RX3, TX3, 13), (RX4, TX4, 6), (RX5, TX5, 4), (RX6, TX6, 9), (RX7, TX7, 15)]
