section
-- ===== PART A: goes FIRST, ahead of the names: the tables' words, and 'selects' of the private methods out of them =====
/-- a private method of a class that the tables say can be made, by its rows of tables_1 -/
def lw_okq (q : MethodName × Nat) : Prop := (q.1.cls ≠ "java/lang/invoke/MethodHandle" ∧ q.1.cls ≠ "java/lang/invoke/VarHandle") ∧ Cond.instantiable q.1.cls q.2 ∈ tables_1 ∧ Cond.privateMethod q.1 ∈ tables_1 ∧ Cond.instanceMethod q.1 ∈ tables_1
theorem lw_p0 : lw_okq (⟨"CountingHorses$Tape", "splitOff", "(I)I"⟩, 6) := ⟨⟨by decide +kernel, by decide +kernel⟩, List.mem_of_getElem? (i := 311) (by decide +kernel), List.mem_of_getElem? (i := 488) (by decide +kernel), List.mem_of_getElem? (i := 489) (by decide +kernel)⟩
theorem lw_p1 : lw_okq (⟨"CountingHorses$Tape", "wordKind", "(II)I"⟩, 6) := ⟨⟨by decide +kernel, by decide +kernel⟩, List.mem_of_getElem? (i := 311) (by decide +kernel), List.mem_of_getElem? (i := 496) (by decide +kernel), List.mem_of_getElem? (i := 497) (by decide +kernel)⟩
theorem lw_p2 : lw_okq (⟨"CountingHorses$Tape", "isWord", "(III)Z"⟩, 6) := ⟨⟨by decide +kernel, by decide +kernel⟩, List.mem_of_getElem? (i := 311) (by decide +kernel), List.mem_of_getElem? (i := 549) (by decide +kernel), List.mem_of_getElem? (i := 550) (by decide +kernel)⟩
theorem lw_p3 : lw_okq (⟨"CountingHorses$Tape", "put", "(III)V"⟩, 6) := ⟨⟨by decide +kernel, by decide +kernel⟩, List.mem_of_getElem? (i := 311) (by decide +kernel), List.mem_of_getElem? (i := 553) (by decide +kernel), List.mem_of_getElem? (i := 554) (by decide +kernel)⟩
theorem lw_p4 : lw_okq (⟨"CountingHorses$Reader", "clause", "()Z"⟩, 7) := ⟨⟨by decide +kernel, by decide +kernel⟩, List.mem_of_getElem? (i := 305) (by decide +kernel), List.mem_of_getElem? (i := 627) (by decide +kernel), List.mem_of_getElem? (i := 628) (by decide +kernel)⟩
theorem lw_p5 : lw_okq (⟨"CountingHorses$Reader", "refuse", "(I)Z"⟩, 7) := ⟨⟨by decide +kernel, by decide +kernel⟩, List.mem_of_getElem? (i := 305) (by decide +kernel), List.mem_of_getElem? (i := 632) (by decide +kernel), List.mem_of_getElem? (i := 633) (by decide +kernel)⟩
theorem lw_p6 : lw_okq (⟨"CountingHorses$Reader", "next", "()V"⟩, 7) := ⟨⟨by decide +kernel, by decide +kernel⟩, List.mem_of_getElem? (i := 305) (by decide +kernel), List.mem_of_getElem? (i := 640) (by decide +kernel), List.mem_of_getElem? (i := 641) (by decide +kernel)⟩
theorem lw_p7 : lw_okq (⟨"CountingHorses$Reader", "order", "(III)Z"⟩, 7) := ⟨⟨by decide +kernel, by decide +kernel⟩, List.mem_of_getElem? (i := 305) (by decide +kernel), List.mem_of_getElem? (i := 644) (by decide +kernel), List.mem_of_getElem? (i := 645) (by decide +kernel)⟩
theorem lw_p8 : lw_okq (⟨"CountingHorses$Reader", "expect", "(I)Z"⟩, 7) := ⟨⟨by decide +kernel, by decide +kernel⟩, List.mem_of_getElem? (i := 305) (by decide +kernel), List.mem_of_getElem? (i := 652) (by decide +kernel), List.mem_of_getElem? (i := 653) (by decide +kernel)⟩
theorem lw_p9 : lw_okq (⟨"CountingHorses$Reader", "law", "(I)Z"⟩, 7) := ⟨⟨by decide +kernel, by decide +kernel⟩, List.mem_of_getElem? (i := 305) (by decide +kernel), List.mem_of_getElem? (i := 656) (by decide +kernel), List.mem_of_getElem? (i := 657) (by decide +kernel)⟩
theorem lw_p10 : lw_okq (⟨"CountingHorses$Reader", "sum", "(II)Z"⟩, 7) := ⟨⟨by decide +kernel, by decide +kernel⟩, List.mem_of_getElem? (i := 305) (by decide +kernel), List.mem_of_getElem? (i := 660) (by decide +kernel), List.mem_of_getElem? (i := 661) (by decide +kernel)⟩
theorem lw_p11 : lw_okq (⟨"CountingHorses$Reader", "product", "(II)Z"⟩, 7) := ⟨⟨by decide +kernel, by decide +kernel⟩, List.mem_of_getElem? (i := 305) (by decide +kernel), List.mem_of_getElem? (i := 664) (by decide +kernel), List.mem_of_getElem? (i := 665) (by decide +kernel)⟩
theorem lw_p12 : lw_okq (⟨"CountingHorses$Reader", "one", "(II)Z"⟩, 7) := ⟨⟨by decide +kernel, by decide +kernel⟩, List.mem_of_getElem? (i := 305) (by decide +kernel), List.mem_of_getElem? (i := 668) (by decide +kernel), List.mem_of_getElem? (i := 669) (by decide +kernel)⟩
theorem lw_p13 : lw_okq (⟨"CountingHorses$Reader", "numeral", "()Z"⟩, 7) := ⟨⟨by decide +kernel, by decide +kernel⟩, List.mem_of_getElem? (i := 305) (by decide +kernel), List.mem_of_getElem? (i := 672) (by decide +kernel), List.mem_of_getElem? (i := 673) (by decide +kernel)⟩
theorem lw_p14 : lw_okq (⟨"CountingHorses$Reader", "name", "(I)Z"⟩, 7) := ⟨⟨by decide +kernel, by decide +kernel⟩, List.mem_of_getElem? (i := 305) (by decide +kernel), List.mem_of_getElem? (i := 680) (by decide +kernel), List.mem_of_getElem? (i := 681) (by decide +kernel)⟩
theorem lw_p15 : lw_okq (⟨"CountingHorses$Reader", "choice", "(II)Z"⟩, 7) := ⟨⟨by decide +kernel, by decide +kernel⟩, List.mem_of_getElem? (i := 305) (by decide +kernel), List.mem_of_getElem? (i := 684) (by decide +kernel), List.mem_of_getElem? (i := 685) (by decide +kernel)⟩
def lw_privs_1 : List (MethodName × Nat) := [(⟨"CountingHorses$Tape", "splitOff", "(I)I"⟩, 6), (⟨"CountingHorses$Tape", "wordKind", "(II)I"⟩, 6), (⟨"CountingHorses$Tape", "isWord", "(III)Z"⟩, 6), (⟨"CountingHorses$Tape", "put", "(III)V"⟩, 6), (⟨"CountingHorses$Reader", "clause", "()Z"⟩, 7), (⟨"CountingHorses$Reader", "refuse", "(I)Z"⟩, 7), (⟨"CountingHorses$Reader", "next", "()V"⟩, 7), (⟨"CountingHorses$Reader", "order", "(III)Z"⟩, 7), (⟨"CountingHorses$Reader", "expect", "(I)Z"⟩, 7), (⟨"CountingHorses$Reader", "law", "(I)Z"⟩, 7), (⟨"CountingHorses$Reader", "sum", "(II)Z"⟩, 7), (⟨"CountingHorses$Reader", "product", "(II)Z"⟩, 7), (⟨"CountingHorses$Reader", "one", "(II)Z"⟩, 7), (⟨"CountingHorses$Reader", "numeral", "()Z"⟩, 7), (⟨"CountingHorses$Reader", "name", "(I)Z"⟩, 7), (⟨"CountingHorses$Reader", "choice", "(II)Z"⟩, 7)]
theorem lw_r1 : ∀ q ∈ lw_privs_1, lw_okq q := List.forall_mem_cons.mpr ⟨lw_p0, List.forall_mem_cons.mpr ⟨lw_p1, List.forall_mem_cons.mpr ⟨lw_p2, List.forall_mem_cons.mpr ⟨lw_p3, List.forall_mem_cons.mpr ⟨lw_p4, List.forall_mem_cons.mpr ⟨lw_p5, List.forall_mem_cons.mpr ⟨lw_p6, List.forall_mem_cons.mpr ⟨lw_p7, List.forall_mem_cons.mpr ⟨lw_p8, List.forall_mem_cons.mpr ⟨lw_p9, List.forall_mem_cons.mpr ⟨lw_p10, List.forall_mem_cons.mpr ⟨lw_p11, List.forall_mem_cons.mpr ⟨lw_p12, List.forall_mem_cons.mpr ⟨lw_p13, List.forall_mem_cons.mpr ⟨lw_p14, List.forall_mem_cons.mpr ⟨lw_p15, fun _ h => absurd h List.not_mem_nil⟩⟩⟩⟩⟩⟩⟩⟩⟩⟩⟩⟩⟩⟩⟩⟩
theorem lw_p16 : lw_okq (⟨"CountingHorses$Reader", "either", "(II)Z"⟩, 7) := ⟨⟨by decide +kernel, by decide +kernel⟩, List.mem_of_getElem? (i := 305) (by decide +kernel), List.mem_of_getElem? (i := 688) (by decide +kernel), List.mem_of_getElem? (i := 689) (by decide +kernel)⟩
theorem lw_p17 : lw_okq (⟨"CountingHorses$Reader", "both", "(II)Z"⟩, 7) := ⟨⟨by decide +kernel, by decide +kernel⟩, List.mem_of_getElem? (i := 305) (by decide +kernel), List.mem_of_getElem? (i := 692) (by decide +kernel), List.mem_of_getElem? (i := 693) (by decide +kernel)⟩
theorem lw_p18 : lw_okq (⟨"CountingHorses$Reader", "ask", "(II)Z"⟩, 7) := ⟨⟨by decide +kernel, by decide +kernel⟩, List.mem_of_getElem? (i := 305) (by decide +kernel), List.mem_of_getElem? (i := 696) (by decide +kernel), List.mem_of_getElem? (i := 697) (by decide +kernel)⟩
theorem lw_p19 : lw_okq (⟨"CountingHorses$Reader", "jump", "(I)I"⟩, 7) := ⟨⟨by decide +kernel, by decide +kernel⟩, List.mem_of_getElem? (i := 305) (by decide +kernel), List.mem_of_getElem? (i := 700) (by decide +kernel), List.mem_of_getElem? (i := 701) (by decide +kernel)⟩
theorem lw_p20 : lw_okq (⟨"CountingHorses$Reader", "land", "(I)V"⟩, 7) := ⟨⟨by decide +kernel, by decide +kernel⟩, List.mem_of_getElem? (i := 305) (by decide +kernel), List.mem_of_getElem? (i := 704) (by decide +kernel), List.mem_of_getElem? (i := 705) (by decide +kernel)⟩
theorem lw_p21 : lw_okq (⟨"CountingHorses", "isHorse", "(I)Z"⟩, 7) := ⟨⟨by decide +kernel, by decide +kernel⟩, List.mem_of_getElem? (i := 24) (by decide +kernel), List.mem_of_getElem? (i := 725) (by decide +kernel), List.mem_of_getElem? (i := 726) (by decide +kernel)⟩
theorem lw_p22 : lw_okq (⟨"CountingHorses$Driver", "nameHorse", "(I)V"⟩, 7) := ⟨⟨by decide +kernel, by decide +kernel⟩, List.mem_of_getElem? (i := 38) (by decide +kernel), List.mem_of_getElem? (i := 739) (by decide +kernel), List.mem_of_getElem? (i := 740) (by decide +kernel)⟩
theorem lw_p23 : lw_okq (⟨"CountingHorses$Driver", "namePlace", "(I)V"⟩, 7) := ⟨⟨by decide +kernel, by decide +kernel⟩, List.mem_of_getElem? (i := 38) (by decide +kernel), List.mem_of_getElem? (i := 743) (by decide +kernel), List.mem_of_getElem? (i := 744) (by decide +kernel)⟩
theorem lw_p24 : lw_okq (⟨"CountingHorses$Driver", "worked", "(LCountingHorses$Text;I)I"⟩, 7) := ⟨⟨by decide +kernel, by decide +kernel⟩, List.mem_of_getElem? (i := 38) (by decide +kernel), List.mem_of_getElem? (i := 747) (by decide +kernel), List.mem_of_getElem? (i := 748) (by decide +kernel)⟩
theorem lw_p25 : lw_okq (⟨"CountingHorses$Driver", "strideOf", "(LCountingHorses$Text;III)I"⟩, 7) := ⟨⟨by decide +kernel, by decide +kernel⟩, List.mem_of_getElem? (i := 38) (by decide +kernel), List.mem_of_getElem? (i := 771) (by decide +kernel), List.mem_of_getElem? (i := 772) (by decide +kernel)⟩
theorem lw_p26 : lw_okq (⟨"CountingHorses$Driver", "oatsOf", "(LCountingHorses$Text;II)I"⟩, 7) := ⟨⟨by decide +kernel, by decide +kernel⟩, List.mem_of_getElem? (i := 38) (by decide +kernel), List.mem_of_getElem? (i := 785) (by decide +kernel), List.mem_of_getElem? (i := 786) (by decide +kernel)⟩
theorem lw_p27 : lw_okq (⟨"CountingHorses", "driveByHand", "(I)Z"⟩, 7) := ⟨⟨by decide +kernel, by decide +kernel⟩, List.mem_of_getElem? (i := 24) (by decide +kernel), List.mem_of_getElem? (i := 793) (by decide +kernel), List.mem_of_getElem? (i := 794) (by decide +kernel)⟩
theorem lw_p28 : lw_okq (⟨"CountingHorses", "passDays", "(I)Z"⟩, 7) := ⟨⟨by decide +kernel, by decide +kernel⟩, List.mem_of_getElem? (i := 24) (by decide +kernel), List.mem_of_getElem? (i := 802) (by decide +kernel), List.mem_of_getElem? (i := 803) (by decide +kernel)⟩
theorem lw_p29 : lw_okq (⟨"CountingHorses$Team", "seek", "(LCountingHorses$Stops;IIII)V"⟩, 4) := ⟨⟨by decide +kernel, by decide +kernel⟩, List.mem_of_getElem? (i := 368) (by decide +kernel), List.mem_of_getElem? (i := 834) (by decide +kernel), List.mem_of_getElem? (i := 835) (by decide +kernel)⟩
theorem lw_p30 : lw_okq (⟨"CountingHorses$Team", "isHarnessed", "(II)Z"⟩, 4) := ⟨⟨by decide +kernel, by decide +kernel⟩, List.mem_of_getElem? (i := 368) (by decide +kernel), List.mem_of_getElem? (i := 839) (by decide +kernel), List.mem_of_getElem? (i := 840) (by decide +kernel)⟩
theorem lw_p31 : lw_okq (⟨"CountingHorses", "goOnFrom", "(I)V"⟩, 7) := ⟨⟨by decide +kernel, by decide +kernel⟩, List.mem_of_getElem? (i := 24) (by decide +kernel), List.mem_of_getElem? (i := 850) (by decide +kernel), List.mem_of_getElem? (i := 851) (by decide +kernel)⟩
def lw_privs_2 : List (MethodName × Nat) := [(⟨"CountingHorses$Reader", "either", "(II)Z"⟩, 7), (⟨"CountingHorses$Reader", "both", "(II)Z"⟩, 7), (⟨"CountingHorses$Reader", "ask", "(II)Z"⟩, 7), (⟨"CountingHorses$Reader", "jump", "(I)I"⟩, 7), (⟨"CountingHorses$Reader", "land", "(I)V"⟩, 7), (⟨"CountingHorses", "isHorse", "(I)Z"⟩, 7), (⟨"CountingHorses$Driver", "nameHorse", "(I)V"⟩, 7), (⟨"CountingHorses$Driver", "namePlace", "(I)V"⟩, 7), (⟨"CountingHorses$Driver", "worked", "(LCountingHorses$Text;I)I"⟩, 7), (⟨"CountingHorses$Driver", "strideOf", "(LCountingHorses$Text;III)I"⟩, 7), (⟨"CountingHorses$Driver", "oatsOf", "(LCountingHorses$Text;II)I"⟩, 7), (⟨"CountingHorses", "driveByHand", "(I)Z"⟩, 7), (⟨"CountingHorses", "passDays", "(I)Z"⟩, 7), (⟨"CountingHorses$Team", "seek", "(LCountingHorses$Stops;IIII)V"⟩, 4), (⟨"CountingHorses$Team", "isHarnessed", "(II)Z"⟩, 4), (⟨"CountingHorses", "goOnFrom", "(I)V"⟩, 7)]
theorem lw_r2 : ∀ q ∈ lw_privs_2, lw_okq q := List.forall_mem_cons.mpr ⟨lw_p16, List.forall_mem_cons.mpr ⟨lw_p17, List.forall_mem_cons.mpr ⟨lw_p18, List.forall_mem_cons.mpr ⟨lw_p19, List.forall_mem_cons.mpr ⟨lw_p20, List.forall_mem_cons.mpr ⟨lw_p21, List.forall_mem_cons.mpr ⟨lw_p22, List.forall_mem_cons.mpr ⟨lw_p23, List.forall_mem_cons.mpr ⟨lw_p24, List.forall_mem_cons.mpr ⟨lw_p25, List.forall_mem_cons.mpr ⟨lw_p26, List.forall_mem_cons.mpr ⟨lw_p27, List.forall_mem_cons.mpr ⟨lw_p28, List.forall_mem_cons.mpr ⟨lw_p29, List.forall_mem_cons.mpr ⟨lw_p30, List.forall_mem_cons.mpr ⟨lw_p31, fun _ h => absurd h List.not_mem_nil⟩⟩⟩⟩⟩⟩⟩⟩⟩⟩⟩⟩⟩⟩⟩⟩
theorem lw_p32 : lw_okq (⟨"CountingHorses", "leads", "(III)Z"⟩, 7) := ⟨⟨by decide +kernel, by decide +kernel⟩, List.mem_of_getElem? (i := 24) (by decide +kernel), List.mem_of_getElem? (i := 864) (by decide +kernel), List.mem_of_getElem? (i := 865) (by decide +kernel)⟩
theorem lw_p33 : lw_okq (⟨"CountingHorses", "ordersFrom", "(III)I"⟩, 7) := ⟨⟨by decide +kernel, by decide +kernel⟩, List.mem_of_getElem? (i := 24) (by decide +kernel), List.mem_of_getElem? (i := 876) (by decide +kernel), List.mem_of_getElem? (i := 877) (by decide +kernel)⟩
theorem lw_p34 : lw_okq (⟨"CountingHorses", "fitsTried", "(LCountingHorses$Text;)Z"⟩, 7) := ⟨⟨by decide +kernel, by decide +kernel⟩, List.mem_of_getElem? (i := 24) (by decide +kernel), List.mem_of_getElem? (i := 888) (by decide +kernel), List.mem_of_getElem? (i := 889) (by decide +kernel)⟩
theorem lw_p35 : lw_okq (⟨"CountingHorses", "isStoppedAt", "(I)Z"⟩, 7) := ⟨⟨by decide +kernel, by decide +kernel⟩, List.mem_of_getElem? (i := 24) (by decide +kernel), List.mem_of_getElem? (i := 896) (by decide +kernel), List.mem_of_getElem? (i := 897) (by decide +kernel)⟩
theorem lw_p36 : lw_okq (⟨"CountingHorsesModel", "four", "(I)V"⟩, 36) := ⟨⟨by decide +kernel, by decide +kernel⟩, List.mem_of_getElem? (i := 932) (by decide +kernel), List.mem_of_getElem? (i := 1080) (by decide +kernel), List.mem_of_getElem? (i := 1081) (by decide +kernel)⟩
theorem lw_p37 : lw_okq (⟨"CountingHorsesModel", "readText", "()I"⟩, 36) := ⟨⟨by decide +kernel, by decide +kernel⟩, List.mem_of_getElem? (i := 932) (by decide +kernel), List.mem_of_getElem? (i := 1092) (by decide +kernel), List.mem_of_getElem? (i := 1093) (by decide +kernel)⟩
theorem lw_p38 : lw_okq (⟨"CountingHorsesModel", "nextToken", "()V"⟩, 36) := ⟨⟨by decide +kernel, by decide +kernel⟩, List.mem_of_getElem? (i := 932) (by decide +kernel), List.mem_of_getElem? (i := 1096) (by decide +kernel), List.mem_of_getElem? (i := 1097) (by decide +kernel)⟩
theorem lw_p39 : lw_okq (⟨"CountingHorsesModel", "byteAt", "(I)I"⟩, 36) := ⟨⟨by decide +kernel, by decide +kernel⟩, List.mem_of_getElem? (i := 932) (by decide +kernel), List.mem_of_getElem? (i := 1100) (by decide +kernel), List.mem_of_getElem? (i := 1101) (by decide +kernel)⟩
theorem lw_p40 : lw_okq (⟨"CountingHorsesModel", "clause", "()I"⟩, 36) := ⟨⟨by decide +kernel, by decide +kernel⟩, List.mem_of_getElem? (i := 932) (by decide +kernel), List.mem_of_getElem? (i := 1111) (by decide +kernel), List.mem_of_getElem? (i := 1112) (by decide +kernel)⟩
theorem lw_p41 : lw_okq (⟨"CountingHorsesModel", "sortOf", "()I"⟩, 36) := ⟨⟨by decide +kernel, by decide +kernel⟩, List.mem_of_getElem? (i := 932) (by decide +kernel), List.mem_of_getElem? (i := 1115) (by decide +kernel), List.mem_of_getElem? (i := 1116) (by decide +kernel)⟩
theorem lw_p42 : lw_okq (⟨"CountingHorsesModel", "isWord", "(J)Z"⟩, 36) := ⟨⟨by decide +kernel, by decide +kernel⟩, List.mem_of_getElem? (i := 932) (by decide +kernel), List.mem_of_getElem? (i := 1125) (by decide +kernel), List.mem_of_getElem? (i := 1126) (by decide +kernel)⟩
theorem lw_p43 : lw_okq (⟨"CountingHorsesModel", "parsed", "(Z)I"⟩, 36) := ⟨⟨by decide +kernel, by decide +kernel⟩, List.mem_of_getElem? (i := 932) (by decide +kernel), List.mem_of_getElem? (i := 1135) (by decide +kernel), List.mem_of_getElem? (i := 1136) (by decide +kernel)⟩
theorem lw_p44 : lw_okq (⟨"CountingHorsesModel", "behindOne", "(Z)Z"⟩, 36) := ⟨⟨by decide +kernel, by decide +kernel⟩, List.mem_of_getElem? (i := 932) (by decide +kernel), List.mem_of_getElem? (i := 1139) (by decide +kernel), List.mem_of_getElem? (i := 1140) (by decide +kernel)⟩
theorem lw_p45 : lw_okq (⟨"CountingHorsesModel", "betweenOf", "(Z)I"⟩, 36) := ⟨⟨by decide +kernel, by decide +kernel⟩, List.mem_of_getElem? (i := 932) (by decide +kernel), List.mem_of_getElem? (i := 1143) (by decide +kernel), List.mem_of_getElem? (i := 1144) (by decide +kernel)⟩
theorem lw_p46 : lw_okq (⟨"CountingHorsesModel", "kindOpen", "(Z)I"⟩, 36) := ⟨⟨by decide +kernel, by decide +kernel⟩, List.mem_of_getElem? (i := 932) (by decide +kernel), List.mem_of_getElem? (i := 1147) (by decide +kernel), List.mem_of_getElem? (i := 1148) (by decide +kernel)⟩
theorem lw_p47 : lw_okq (⟨"CountingHorsesModel", "marker", "()I"⟩, 36) := ⟨⟨by decide +kernel, by decide +kernel⟩, List.mem_of_getElem? (i := 932) (by decide +kernel), List.mem_of_getElem? (i := 1151) (by decide +kernel), List.mem_of_getElem? (i := 1152) (by decide +kernel)⟩
def lw_privs_3 : List (MethodName × Nat) := [(⟨"CountingHorses", "leads", "(III)Z"⟩, 7), (⟨"CountingHorses", "ordersFrom", "(III)I"⟩, 7), (⟨"CountingHorses", "fitsTried", "(LCountingHorses$Text;)Z"⟩, 7), (⟨"CountingHorses", "isStoppedAt", "(I)Z"⟩, 7), (⟨"CountingHorsesModel", "four", "(I)V"⟩, 36), (⟨"CountingHorsesModel", "readText", "()I"⟩, 36), (⟨"CountingHorsesModel", "nextToken", "()V"⟩, 36), (⟨"CountingHorsesModel", "byteAt", "(I)I"⟩, 36), (⟨"CountingHorsesModel", "clause", "()I"⟩, 36), (⟨"CountingHorsesModel", "sortOf", "()I"⟩, 36), (⟨"CountingHorsesModel", "isWord", "(J)Z"⟩, 36), (⟨"CountingHorsesModel", "parsed", "(Z)I"⟩, 36), (⟨"CountingHorsesModel", "behindOne", "(Z)Z"⟩, 36), (⟨"CountingHorsesModel", "betweenOf", "(Z)I"⟩, 36), (⟨"CountingHorsesModel", "kindOpen", "(Z)I"⟩, 36), (⟨"CountingHorsesModel", "marker", "()I"⟩, 36)]
theorem lw_r3 : ∀ q ∈ lw_privs_3, lw_okq q := List.forall_mem_cons.mpr ⟨lw_p32, List.forall_mem_cons.mpr ⟨lw_p33, List.forall_mem_cons.mpr ⟨lw_p34, List.forall_mem_cons.mpr ⟨lw_p35, List.forall_mem_cons.mpr ⟨lw_p36, List.forall_mem_cons.mpr ⟨lw_p37, List.forall_mem_cons.mpr ⟨lw_p38, List.forall_mem_cons.mpr ⟨lw_p39, List.forall_mem_cons.mpr ⟨lw_p40, List.forall_mem_cons.mpr ⟨lw_p41, List.forall_mem_cons.mpr ⟨lw_p42, List.forall_mem_cons.mpr ⟨lw_p43, List.forall_mem_cons.mpr ⟨lw_p44, List.forall_mem_cons.mpr ⟨lw_p45, List.forall_mem_cons.mpr ⟨lw_p46, List.forall_mem_cons.mpr ⟨lw_p47, fun _ h => absurd h List.not_mem_nil⟩⟩⟩⟩⟩⟩⟩⟩⟩⟩⟩⟩⟩⟩⟩⟩
theorem lw_p48 : lw_okq (⟨"CountingHorsesModel", "isCompared", "()Z"⟩, 36) := ⟨⟨by decide +kernel, by decide +kernel⟩, List.mem_of_getElem? (i := 932) (by decide +kernel), List.mem_of_getElem? (i := 1155) (by decide +kernel), List.mem_of_getElem? (i := 1156) (by decide +kernel)⟩
theorem lw_p49 : lw_okq (⟨"CountingHorsesModel", "compareOf", "()I"⟩, 36) := ⟨⟨by decide +kernel, by decide +kernel⟩, List.mem_of_getElem? (i := 932) (by decide +kernel), List.mem_of_getElem? (i := 1162) (by decide +kernel), List.mem_of_getElem? (i := 1163) (by decide +kernel)⟩
theorem lw_p50 : lw_okq (⟨"CountingHorsesModel", "settle", "(I)V"⟩, 36) := ⟨⟨by decide +kernel, by decide +kernel⟩, List.mem_of_getElem? (i := 932) (by decide +kernel), List.mem_of_getElem? (i := 1167) (by decide +kernel), List.mem_of_getElem? (i := 1168) (by decide +kernel)⟩
theorem lw_p51 : lw_okq (⟨"CountingHorsesModel", "emit", "(II)V"⟩, 36) := ⟨⟨by decide +kernel, by decide +kernel⟩, List.mem_of_getElem? (i := 932) (by decide +kernel), List.mem_of_getElem? (i := 1171) (by decide +kernel), List.mem_of_getElem? (i := 1172) (by decide +kernel)⟩
theorem lw_p52 : lw_okq (⟨"CountingHorsesModel", "push", "(I)V"⟩, 36) := ⟨⟨by decide +kernel, by decide +kernel⟩, List.mem_of_getElem? (i := 932) (by decide +kernel), List.mem_of_getElem? (i := 1175) (by decide +kernel), List.mem_of_getElem? (i := 1176) (by decide +kernel)⟩
theorem lw_p53 : lw_okq (⟨"CountingHorsesModel", "whole", "()V"⟩, 36) := ⟨⟨by decide +kernel, by decide +kernel⟩, List.mem_of_getElem? (i := 932) (by decide +kernel), List.mem_of_getElem? (i := 1179) (by decide +kernel), List.mem_of_getElem? (i := 1180) (by decide +kernel)⟩
theorem lw_p54 : lw_okq (⟨"CountingHorsesModel", "beginOne", "(Z)I"⟩, 36) := ⟨⟨by decide +kernel, by decide +kernel⟩, List.mem_of_getElem? (i := 932) (by decide +kernel), List.mem_of_getElem? (i := 1183) (by decide +kernel), List.mem_of_getElem? (i := 1184) (by decide +kernel)⟩
theorem lw_p55 : lw_okq (⟨"CountingHorsesModel", "nameOf", "()I"⟩, 36) := ⟨⟨by decide +kernel, by decide +kernel⟩, List.mem_of_getElem? (i := 932) (by decide +kernel), List.mem_of_getElem? (i := 1187) (by decide +kernel), List.mem_of_getElem? (i := 1188) (by decide +kernel)⟩
theorem lw_p56 : lw_okq (⟨"CountingHorsesModel", "isOf", "(I)Z"⟩, 36) := ⟨⟨by decide +kernel, by decide +kernel⟩, List.mem_of_getElem? (i := 932) (by decide +kernel), List.mem_of_getElem? (i := 1191) (by decide +kernel), List.mem_of_getElem? (i := 1192) (by decide +kernel)⟩
theorem lw_p57 : lw_okq (⟨"CountingHorsesModel", "opensBy", "(I)I"⟩, 36) := ⟨⟨by decide +kernel, by decide +kernel⟩, List.mem_of_getElem? (i := 932) (by decide +kernel), List.mem_of_getElem? (i := 1195) (by decide +kernel), List.mem_of_getElem? (i := 1196) (by decide +kernel)⟩
theorem lw_p58 : lw_okq (⟨"CountingHorsesModel", "isAskAhead", "(Z)Z"⟩, 36) := ⟨⟨by decide +kernel, by decide +kernel⟩, List.mem_of_getElem? (i := 932) (by decide +kernel), List.mem_of_getElem? (i := 1200) (by decide +kernel), List.mem_of_getElem? (i := 1201) (by decide +kernel)⟩
theorem lw_p59 : lw_okq (⟨"CountingHorsesModel", "figure", "(III)I"⟩, 36) := ⟨⟨by decide +kernel, by decide +kernel⟩, List.mem_of_getElem? (i := 932) (by decide +kernel), List.mem_of_getElem? (i := 1204) (by decide +kernel), List.mem_of_getElem? (i := 1205) (by decide +kernel)⟩
theorem lw_p60 : lw_okq (⟨"CountingHorsesModel", "isHorse", "(I)Z"⟩, 36) := ⟨⟨by decide +kernel, by decide +kernel⟩, List.mem_of_getElem? (i := 932) (by decide +kernel), List.mem_of_getElem? (i := 1220) (by decide +kernel), List.mem_of_getElem? (i := 1221) (by decide +kernel)⟩
theorem lw_p61 : lw_okq (⟨"CountingHorsesModel", "go", "(IIIZ)V"⟩, 36) := ⟨⟨by decide +kernel, by decide +kernel⟩, List.mem_of_getElem? (i := 932) (by decide +kernel), List.mem_of_getElem? (i := 1224) (by decide +kernel), List.mem_of_getElem? (i := 1225) (by decide +kernel)⟩
theorem lw_p62 : lw_okq (⟨"CountingHorsesModel", "nameHorse", "(II)V"⟩, 36) := ⟨⟨by decide +kernel, by decide +kernel⟩, List.mem_of_getElem? (i := 932) (by decide +kernel), List.mem_of_getElem? (i := 1228) (by decide +kernel), List.mem_of_getElem? (i := 1229) (by decide +kernel)⟩
theorem lw_p63 : lw_okq (⟨"CountingHorsesModel", "sumOf", "(IIII)I"⟩, 36) := ⟨⟨by decide +kernel, by decide +kernel⟩, List.mem_of_getElem? (i := 932) (by decide +kernel), List.mem_of_getElem? (i := 1232) (by decide +kernel), List.mem_of_getElem? (i := 1233) (by decide +kernel)⟩
def lw_privs_4 : List (MethodName × Nat) := [(⟨"CountingHorsesModel", "isCompared", "()Z"⟩, 36), (⟨"CountingHorsesModel", "compareOf", "()I"⟩, 36), (⟨"CountingHorsesModel", "settle", "(I)V"⟩, 36), (⟨"CountingHorsesModel", "emit", "(II)V"⟩, 36), (⟨"CountingHorsesModel", "push", "(I)V"⟩, 36), (⟨"CountingHorsesModel", "whole", "()V"⟩, 36), (⟨"CountingHorsesModel", "beginOne", "(Z)I"⟩, 36), (⟨"CountingHorsesModel", "nameOf", "()I"⟩, 36), (⟨"CountingHorsesModel", "isOf", "(I)Z"⟩, 36), (⟨"CountingHorsesModel", "opensBy", "(I)I"⟩, 36), (⟨"CountingHorsesModel", "isAskAhead", "(Z)Z"⟩, 36), (⟨"CountingHorsesModel", "figure", "(III)I"⟩, 36), (⟨"CountingHorsesModel", "isHorse", "(I)Z"⟩, 36), (⟨"CountingHorsesModel", "go", "(IIIZ)V"⟩, 36), (⟨"CountingHorsesModel", "nameHorse", "(II)V"⟩, 36), (⟨"CountingHorsesModel", "sumOf", "(IIII)I"⟩, 36)]
theorem lw_r4 : ∀ q ∈ lw_privs_4, lw_okq q := List.forall_mem_cons.mpr ⟨lw_p48, List.forall_mem_cons.mpr ⟨lw_p49, List.forall_mem_cons.mpr ⟨lw_p50, List.forall_mem_cons.mpr ⟨lw_p51, List.forall_mem_cons.mpr ⟨lw_p52, List.forall_mem_cons.mpr ⟨lw_p53, List.forall_mem_cons.mpr ⟨lw_p54, List.forall_mem_cons.mpr ⟨lw_p55, List.forall_mem_cons.mpr ⟨lw_p56, List.forall_mem_cons.mpr ⟨lw_p57, List.forall_mem_cons.mpr ⟨lw_p58, List.forall_mem_cons.mpr ⟨lw_p59, List.forall_mem_cons.mpr ⟨lw_p60, List.forall_mem_cons.mpr ⟨lw_p61, List.forall_mem_cons.mpr ⟨lw_p62, List.forall_mem_cons.mpr ⟨lw_p63, fun _ h => absurd h List.not_mem_nil⟩⟩⟩⟩⟩⟩⟩⟩⟩⟩⟩⟩⟩⟩⟩⟩
theorem lw_p64 : lw_okq (⟨"CountingHorsesModel", "clauseOf", "(II)I"⟩, 36) := ⟨⟨by decide +kernel, by decide +kernel⟩, List.mem_of_getElem? (i := 932) (by decide +kernel), List.mem_of_getElem? (i := 1236) (by decide +kernel), List.mem_of_getElem? (i := 1237) (by decide +kernel)⟩
theorem lw_p65 : lw_okq (⟨"CountingHorsesModel", "work", "(II)V"⟩, 36) := ⟨⟨by decide +kernel, by decide +kernel⟩, List.mem_of_getElem? (i := 932) (by decide +kernel), List.mem_of_getElem? (i := 1240) (by decide +kernel), List.mem_of_getElem? (i := 1241) (by decide +kernel)⟩
theorem lw_p66 : lw_okq (⟨"CountingHorsesModel", "slip", "()I"⟩, 36) := ⟨⟨by decide +kernel, by decide +kernel⟩, List.mem_of_getElem? (i := 932) (by decide +kernel), List.mem_of_getElem? (i := 1258) (by decide +kernel), List.mem_of_getElem? (i := 1259) (by decide +kernel)⟩
theorem lw_p67 : lw_okq (⟨"CountingHorsesModel", "over", "(I)I"⟩, 36) := ⟨⟨by decide +kernel, by decide +kernel⟩, List.mem_of_getElem? (i := 932) (by decide +kernel), List.mem_of_getElem? (i := 1262) (by decide +kernel), List.mem_of_getElem? (i := 1263) (by decide +kernel)⟩
theorem lw_p68 : lw_okq (⟨"CountingHorsesModel", "keep", "()V"⟩, 36) := ⟨⟨by decide +kernel, by decide +kernel⟩, List.mem_of_getElem? (i := 932) (by decide +kernel), List.mem_of_getElem? (i := 1274) (by decide +kernel), List.mem_of_getElem? (i := 1275) (by decide +kernel)⟩
theorem lw_p69 : lw_okq (⟨"CountingHorsesModel", "isPlayed", "(I)Z"⟩, 36) := ⟨⟨by decide +kernel, by decide +kernel⟩, List.mem_of_getElem? (i := 932) (by decide +kernel), List.mem_of_getElem? (i := 1294) (by decide +kernel), List.mem_of_getElem? (i := 1295) (by decide +kernel)⟩
theorem lw_p70 : lw_okq (⟨"CountingHorsesModel", "innAt", "(I)I"⟩, 36) := ⟨⟨by decide +kernel, by decide +kernel⟩, List.mem_of_getElem? (i := 932) (by decide +kernel), List.mem_of_getElem? (i := 1304) (by decide +kernel), List.mem_of_getElem? (i := 1305) (by decide +kernel)⟩
theorem lw_p71 : lw_okq (⟨"CountingHorsesModel", "tryRows", "(III)I"⟩, 36) := ⟨⟨by decide +kernel, by decide +kernel⟩, List.mem_of_getElem? (i := 932) (by decide +kernel), List.mem_of_getElem? (i := 1312) (by decide +kernel), List.mem_of_getElem? (i := 1313) (by decide +kernel)⟩
theorem lw_p72 : lw_okq (⟨"CountingHorsesModel", "isTwice", "(I)Z"⟩, 36) := ⟨⟨by decide +kernel, by decide +kernel⟩, List.mem_of_getElem? (i := 932) (by decide +kernel), List.mem_of_getElem? (i := 1317) (by decide +kernel), List.mem_of_getElem? (i := 1318) (by decide +kernel)⟩
theorem lw_p73 : lw_okq (⟨"CountingHorsesModel", "findAll", "()V"⟩, 36) := ⟨⟨by decide +kernel, by decide +kernel⟩, List.mem_of_getElem? (i := 932) (by decide +kernel), List.mem_of_getElem? (i := 1325) (by decide +kernel), List.mem_of_getElem? (i := 1326) (by decide +kernel)⟩
theorem lw_p74 : lw_okq (⟨"CountingHorsesModel", "isThief", "(III)Z"⟩, 36) := ⟨⟨by decide +kernel, by decide +kernel⟩, List.mem_of_getElem? (i := 932) (by decide +kernel), List.mem_of_getElem? (i := 1337) (by decide +kernel), List.mem_of_getElem? (i := 1338) (by decide +kernel)⟩
theorem lw_p75 : lw_okq (⟨"CountingHorsesModel", "stopOf", "(II)I"⟩, 36) := ⟨⟨by decide +kernel, by decide +kernel⟩, List.mem_of_getElem? (i := 932) (by decide +kernel), List.mem_of_getElem? (i := 1341) (by decide +kernel), List.mem_of_getElem? (i := 1342) (by decide +kernel)⟩
theorem lw_p76 : lw_okq (⟨"CountingHorsesModel", "orders", "(I)I"⟩, 36) := ⟨⟨by decide +kernel, by decide +kernel⟩, List.mem_of_getElem? (i := 932) (by decide +kernel), List.mem_of_getElem? (i := 1353) (by decide +kernel), List.mem_of_getElem? (i := 1354) (by decide +kernel)⟩
theorem lw_p77 : lw_okq (⟨"CountingHorsesModel", "makers", "(II)I"⟩, 36) := ⟨⟨by decide +kernel, by decide +kernel⟩, List.mem_of_getElem? (i := 932) (by decide +kernel), List.mem_of_getElem? (i := 1357) (by decide +kernel), List.mem_of_getElem? (i := 1358) (by decide +kernel)⟩
theorem lw_p78 : lw_okq (⟨"CountingHorsesModel", "isTaught", "(I)Z"⟩, 36) := ⟨⟨by decide +kernel, by decide +kernel⟩, List.mem_of_getElem? (i := 932) (by decide +kernel), List.mem_of_getElem? (i := 1372) (by decide +kernel), List.mem_of_getElem? (i := 1373) (by decide +kernel)⟩
def lw_privs_5 : List (MethodName × Nat) := [(⟨"CountingHorsesModel", "clauseOf", "(II)I"⟩, 36), (⟨"CountingHorsesModel", "work", "(II)V"⟩, 36), (⟨"CountingHorsesModel", "slip", "()I"⟩, 36), (⟨"CountingHorsesModel", "over", "(I)I"⟩, 36), (⟨"CountingHorsesModel", "keep", "()V"⟩, 36), (⟨"CountingHorsesModel", "isPlayed", "(I)Z"⟩, 36), (⟨"CountingHorsesModel", "innAt", "(I)I"⟩, 36), (⟨"CountingHorsesModel", "tryRows", "(III)I"⟩, 36), (⟨"CountingHorsesModel", "isTwice", "(I)Z"⟩, 36), (⟨"CountingHorsesModel", "findAll", "()V"⟩, 36), (⟨"CountingHorsesModel", "isThief", "(III)Z"⟩, 36), (⟨"CountingHorsesModel", "stopOf", "(II)I"⟩, 36), (⟨"CountingHorsesModel", "orders", "(I)I"⟩, 36), (⟨"CountingHorsesModel", "makers", "(II)I"⟩, 36), (⟨"CountingHorsesModel", "isTaught", "(I)Z"⟩, 36)]
theorem lw_r5 : ∀ q ∈ lw_privs_5, lw_okq q := List.forall_mem_cons.mpr ⟨lw_p64, List.forall_mem_cons.mpr ⟨lw_p65, List.forall_mem_cons.mpr ⟨lw_p66, List.forall_mem_cons.mpr ⟨lw_p67, List.forall_mem_cons.mpr ⟨lw_p68, List.forall_mem_cons.mpr ⟨lw_p69, List.forall_mem_cons.mpr ⟨lw_p70, List.forall_mem_cons.mpr ⟨lw_p71, List.forall_mem_cons.mpr ⟨lw_p72, List.forall_mem_cons.mpr ⟨lw_p73, List.forall_mem_cons.mpr ⟨lw_p74, List.forall_mem_cons.mpr ⟨lw_p75, List.forall_mem_cons.mpr ⟨lw_p76, List.forall_mem_cons.mpr ⟨lw_p77, List.forall_mem_cons.mpr ⟨lw_p78, fun _ h => absurd h List.not_mem_nil⟩⟩⟩⟩⟩⟩⟩⟩⟩⟩⟩⟩⟩⟩⟩
def lw_privs : List (MethodName × Nat) := lw_privs_1 ++ (lw_privs_2 ++ (lw_privs_3 ++ (lw_privs_4 ++ (lw_privs_5))))
def lw_tbl : List Cond := k2_sels lw_privs ++ tables_1
theorem lw_privs_ok : ∀ q ∈ lw_privs, lw_okq q := by
  show ∀ q ∈ lw_privs_1 ++ (lw_privs_2 ++ (lw_privs_3 ++ (lw_privs_4 ++ (lw_privs_5)))), lw_okq q
  exact List.forall_mem_append.mpr ⟨lw_r1, List.forall_mem_append.mpr ⟨lw_r2, List.forall_mem_append.mpr ⟨lw_r3, List.forall_mem_append.mpr ⟨lw_r4, lw_r5⟩⟩⟩⟩
end
section
def RX0 : String := "CountingHorses$Driver"
def TX0 : u_T := fun k => match k with
  | 0 => ("CountingHorses$Driver", "world", "LCountingHorses$World;", true)
  | 1 => ("CountingHorses$Driver", "texts", "[LCountingHorses$Text;", true)
  | 2 => ("CountingHorses$Driver", "lawless", "LCountingHorses$Text;", true)
  | 3 => ("CountingHorses$Driver", "names", "[I", true)
  | 4 => ("CountingHorses$Driver", "stack", "[I", true)
  | 5 => ("CountingHorses$Driver", "stopped", "I", false)
  | _ => ("CountingHorses$Driver", "eaten", "I", false)
def tyX0 : Nat → FieldType := fun k => match k with
  | 0 => .object "CountingHorses$World"
  | 1 => .array (.object "CountingHorses$Text")
  | 2 => .object "CountingHorses$Text"
  | 3 => .array .int
  | 4 => .array .int
  | 5 => .int
  | _ => .int
abbrev wsX00 : List Cond := u_ws RX0 TX0 7
theorem nmX0 : ∀ a, a < 7 → ∀ b, b < 7 → a ≠ b → (TX0 a).2.1 ≠ (TX0 b).2.1 := by decide +kernel
theorem tyX0_ok : ∀ k, k < 7 → parseFieldDescriptor (TX0 k).2.2.1 = some (tyX0 k) := by decide +kernel
abbrev cX0_init : ByteArray := prog_2_method_1_code
def yX0_init : MethodName := ⟨RX0, "<init>", "()V"⟩
abbrev cX0_ruling : ByteArray := prog_2_method_2_code
def yX0_ruling : MethodName := ⟨RX0, "ruling", "()LCountingHorses$Text;"⟩
abbrev cX0_go : ByteArray := prog_2_method_3_code
def yX0_go : MethodName := ⟨RX0, "go", "(LCountingHorses$Text;IIZ)V"⟩
abbrev cX0_stepsOf : ByteArray := prog_2_method_4_code
def yX0_stepsOf : MethodName := ⟨RX0, "stepsOf", "(LCountingHorses$Text;II)I"⟩
abbrev cX0_strideOf : ByteArray := prog_2_method_5_code
def yX0_strideOf : MethodName := ⟨RX0, "strideOf", "(LCountingHorses$Text;III)I"⟩
abbrev cX0_oatsOf : ByteArray := prog_2_method_6_code
def yX0_oatsOf : MethodName := ⟨RX0, "oatsOf", "(LCountingHorses$Text;II)I"⟩
abbrev cX0_nameHorse : ByteArray := prog_2_method_7_code
def yX0_nameHorse : MethodName := ⟨RX0, "nameHorse", "(I)V"⟩
abbrev cX0_namePlace : ByteArray := prog_2_method_8_code
def yX0_namePlace : MethodName := ⟨RX0, "namePlace", "(I)V"⟩
abbrev cX0_worked : ByteArray := prog_2_method_9_code
def yX0_worked : MethodName := ⟨RX0, "worked", "(LCountingHorses$Text;I)I"⟩
abbrev cX0_joined : ByteArray := prog_2_method_10_code
def yX0_joined : MethodName := ⟨RX0, "joined", "(III)I"⟩
def RX1 : String := "CountingHorses$Mail"
def TX1 : u_T := fun k => match k with
  | 0 => ("CountingHorses$Mail", "innAt", "[I", true)
  | 1 => ("CountingHorses$Mail", "inns", "I", false)
  | 2 => ("CountingHorses$Mail", "place", "I", false)
  | 3 => ("CountingHorses$Mail", "oats", "I", false)
  | 4 => ("CountingHorses$Mail", "drives", "I", false)
  | 5 => ("CountingHorses$Mail", "day", "I", false)
  | _ => ("CountingHorses$Mail", "x", "I", false)
def tyX1 : Nat → FieldType := fun k => match k with
  | 0 => .array .int
  | 1 => .int
  | 2 => .int
  | 3 => .int
  | 4 => .int
  | 5 => .int
  | _ => .int
abbrev wsX10 : List Cond := u_ws RX1 TX1 7
theorem nmX1 : ∀ a, a < 7 → ∀ b, b < 7 → a ≠ b → (TX1 a).2.1 ≠ (TX1 b).2.1 := by decide +kernel
theorem tyX1_ok : ∀ k, k < 7 → parseFieldDescriptor (TX1 k).2.2.1 = some (tyX1 k) := by decide +kernel
abbrev cX1_init : ByteArray := prog_3_method_1_code
def yX1_init : MethodName := ⟨RX1, "<init>", "()V"⟩
abbrev cX1_lowestInnHere : ByteArray := prog_3_method_2_code
def yX1_lowestInnHere : MethodName := ⟨RX1, "lowestInnHere", "()I"⟩
abbrev cX1_slips : ByteArray := prog_3_method_3_code
def yX1_slips : MethodName := ⟨RX1, "slips", "(I)Z"⟩
abbrev cX1_copyFrom : ByteArray := prog_3_method_4_code
def yX1_copyFrom : MethodName := ⟨RX1, "copyFrom", "(LCountingHorses$Mail;)V"⟩
def RX2 : String := "CountingHorses$Reader"
def TX2 : u_T := fun k => match k with
  | 0 => ("CountingHorses$Reader", "tape", "LCountingHorses$Tape;", true)
  | 1 => ("CountingHorses$Reader", "fault", "I", false)
  | 2 => ("CountingHorses$Reader", "faultAt", "I", false)
  | 3 => ("CountingHorses$Reader", "token", "I", false)
  | 4 => ("CountingHorses$Reader", "kind", "I", false)
  | 5 => ("CountingHorses$Reader", "number", "I", false)
  | _ => ("CountingHorses$Reader", "text", "LCountingHorses$Text;", false)
def tyX2 : Nat → FieldType := fun k => match k with
  | 0 => .object "CountingHorses$Tape"
  | 1 => .int
  | 2 => .int
  | 3 => .int
  | 4 => .int
  | 5 => .int
  | _ => .object "CountingHorses$Text"
abbrev wsX20 : List Cond := u_ws RX2 TX2 7
theorem nmX2 : ∀ a, a < 7 → ∀ b, b < 7 → a ≠ b → (TX2 a).2.1 ≠ (TX2 b).2.1 := by decide +kernel
theorem tyX2_ok : ∀ k, k < 7 → parseFieldDescriptor (TX2 k).2.2.1 = some (tyX2 k) := by decide +kernel
abbrev cX2_init : ByteArray := prog_4_method_1_code
def yX2_init : MethodName := ⟨RX2, "<init>", "()V"⟩
abbrev cX2_read : ByteArray := prog_4_method_2_code
def yX2_read : MethodName := ⟨RX2, "read", "(LCountingHorses$Text;)V"⟩
abbrev cX2_next : ByteArray := prog_4_method_3_code
def yX2_next : MethodName := ⟨RX2, "next", "()V"⟩
abbrev cX2_refuse : ByteArray := prog_4_method_4_code
def yX2_refuse : MethodName := ⟨RX2, "refuse", "(I)Z"⟩
abbrev cX2_expect : ByteArray := prog_4_method_5_code
def yX2_expect : MethodName := ⟨RX2, "expect", "(I)Z"⟩
abbrev cX2_clause : ByteArray := prog_4_method_6_code
def yX2_clause : MethodName := ⟨RX2, "clause", "()Z"⟩
abbrev cX2_order : ByteArray := prog_4_method_7_code
def yX2_order : MethodName := ⟨RX2, "order", "(III)Z"⟩
abbrev cX2_law : ByteArray := prog_4_method_8_code
def yX2_law : MethodName := ⟨RX2, "law", "(I)Z"⟩
abbrev cX2_sum : ByteArray := prog_4_method_9_code
def yX2_sum : MethodName := ⟨RX2, "sum", "(II)Z"⟩
abbrev cX2_product : ByteArray := prog_4_method_10_code
def yX2_product : MethodName := ⟨RX2, "product", "(II)Z"⟩
abbrev cX2_one : ByteArray := prog_4_method_11_code
def yX2_one : MethodName := ⟨RX2, "one", "(II)Z"⟩
abbrev cX2_numeral : ByteArray := prog_4_method_12_code
def yX2_numeral : MethodName := ⟨RX2, "numeral", "()Z"⟩
abbrev cX2_name : ByteArray := prog_4_method_13_code
def yX2_name : MethodName := ⟨RX2, "name", "(I)Z"⟩
abbrev cX2_choice : ByteArray := prog_4_method_14_code
def yX2_choice : MethodName := ⟨RX2, "choice", "(II)Z"⟩
abbrev cX2_jump : ByteArray := prog_4_method_15_code
def yX2_jump : MethodName := ⟨RX2, "jump", "(I)I"⟩
abbrev cX2_land : ByteArray := prog_4_method_16_code
def yX2_land : MethodName := ⟨RX2, "land", "(I)V"⟩
abbrev cX2_either : ByteArray := prog_4_method_17_code
def yX2_either : MethodName := ⟨RX2, "either", "(II)Z"⟩
abbrev cX2_both : ByteArray := prog_4_method_18_code
def yX2_both : MethodName := ⟨RX2, "both", "(II)Z"⟩
abbrev cX2_ask : ByteArray := prog_4_method_19_code
def yX2_ask : MethodName := ⟨RX2, "ask", "(II)Z"⟩
def RX3 : String := "CountingHorses$Road"
def TX3 : u_T := fun k => match k with
  | 0 => ("CountingHorses$Road", "mud", "[I", true)
  | 1 => ("CountingHorses$Road", "bridgeFrom", "[I", true)
  | 2 => ("CountingHorses$Road", "bridgeTo", "[I", true)
  | _ => ("CountingHorses$Road", "bridges", "I", false)
def tyX3 : Nat → FieldType := fun k => match k with
  | 0 => .array .int
  | 1 => .array .int
  | 2 => .array .int
  | _ => .int
abbrev wsX30 : List Cond := u_ws RX3 TX3 4
theorem nmX3 : ∀ a, a < 4 → ∀ b, b < 4 → a ≠ b → (TX3 a).2.1 ≠ (TX3 b).2.1 := by decide +kernel
theorem tyX3_ok : ∀ k, k < 4 → parseFieldDescriptor (TX3 k).2.2.1 = some (tyX3 k) := by decide +kernel
abbrev cX3_init : ByteArray := prog_5_method_1_code
def yX3_init : MethodName := ⟨RX3, "<init>", "()V"⟩
abbrev cX3_acrossFrom : ByteArray := prog_5_method_2_code
def yX3_acrossFrom : MethodName := ⟨RX3, "acrossFrom", "(I)I"⟩
abbrev cX3_copyFrom : ByteArray := prog_5_method_3_code
def yX3_copyFrom : MethodName := ⟨RX3, "copyFrom", "(LCountingHorses$Road;)V"⟩
def RX4 : String := "CountingHorses$Stable"
def TX4 : u_T := fun k => match k with
  | 0 => ("CountingHorses$Stable", "count", "[I", true)
  | 1 => ("CountingHorses$Stable", "shoe", "[I", true)
  | _ => ("CountingHorses$Stable", "horses", "I", false)
def tyX4 : Nat → FieldType := fun k => match k with
  | 0 => .array .int
  | 1 => .array .int
  | _ => .int
abbrev wsX40 : List Cond := u_ws RX4 TX4 3
theorem nmX4 : ∀ a, a < 3 → ∀ b, b < 3 → a ≠ b → (TX4 a).2.1 ≠ (TX4 b).2.1 := by decide +kernel
theorem tyX4_ok : ∀ k, k < 3 → parseFieldDescriptor (TX4 k).2.2.1 = some (tyX4 k) := by decide +kernel
abbrev cX4_init : ByteArray := prog_6_method_1_code
def yX4_init : MethodName := ⟨RX4, "<init>", "()V"⟩
abbrev cX4_copyFrom : ByteArray := prog_6_method_2_code
def yX4_copyFrom : MethodName := ⟨RX4, "copyFrom", "(LCountingHorses$Stable;)V"⟩
def RX5 : String := "CountingHorses$StepsBack"
def TX5 : u_T := fun k => match k with
  | 0 => ("CountingHorses$StepsBack", "ring", "[LCountingHorses$Mail;", true)
  | 1 => ("CountingHorses$StepsBack", "next", "I", false)
  | _ => ("CountingHorses$StepsBack", "size", "I", false)
def tyX5 : Nat → FieldType := fun k => match k with
  | 0 => .array (.object "CountingHorses$Mail")
  | 1 => .int
  | _ => .int
abbrev wsX50 : List Cond := u_ws RX5 TX5 3
theorem nmX5 : ∀ a, a < 3 → ∀ b, b < 3 → a ≠ b → (TX5 a).2.1 ≠ (TX5 b).2.1 := by decide +kernel
theorem tyX5_ok : ∀ k, k < 3 → parseFieldDescriptor (TX5 k).2.2.1 = some (tyX5 k) := by decide +kernel
abbrev cX5_init : ByteArray := prog_7_method_1_code
def yX5_init : MethodName := ⟨RX5, "<init>", "()V"⟩
abbrev cX5_keep : ByteArray := prog_7_method_2_code
def yX5_keep : MethodName := ⟨RX5, "keep", "(LCountingHorses$Mail;)V"⟩
abbrev cX5_takeBack : ByteArray := prog_7_method_3_code
def yX5_takeBack : MethodName := ⟨RX5, "takeBack", "(LCountingHorses$Mail;)Z"⟩
abbrev cX5_copyFrom : ByteArray := prog_7_method_4_code
def yX5_copyFrom : MethodName := ⟨RX5, "copyFrom", "(LCountingHorses$StepsBack;)V"⟩
def RX6 : String := "CountingHorses$Stops"
def TX6 : u_T := fun k => match k with
  | 0 => ("CountingHorses$Stops", "driver", "LCountingHorses$Driver;", true)
  | 1 => ("CountingHorses$Stops", "stop", "[I", true)
  | 2 => ("CountingHorses$Stops", "eaten", "[I", true)
  | 3 => ("CountingHorses$Stops", "filledIn", "[I", true)
  | _ => ("CountingHorses$Stops", "age", "I", false)
def tyX6 : Nat → FieldType := fun k => match k with
  | 0 => .object "CountingHorses$Driver"
  | 1 => .array .int
  | 2 => .array .int
  | 3 => .array .int
  | _ => .int
abbrev wsX60 : List Cond := u_ws RX6 TX6 5
theorem nmX6 : ∀ a, a < 5 → ∀ b, b < 5 → a ≠ b → (TX6 a).2.1 ≠ (TX6 b).2.1 := by decide +kernel
theorem tyX6_ok : ∀ k, k < 5 → parseFieldDescriptor (TX6 k).2.2.1 = some (tyX6 k) := by decide +kernel
abbrev cX6_init : ByteArray := prog_8_method_1_code
def yX6_init : MethodName := ⟨RX6, "<init>", "()V"⟩
abbrev cX6_forget : ByteArray := prog_8_method_2_code
def yX6_forget : MethodName := ⟨RX6, "forget", "()V"⟩
abbrev cX6_rowOf : ByteArray := prog_8_method_3_code
def yX6_rowOf : MethodName := ⟨RX6, "rowOf", "(II)I"⟩
def RX7 : String := "CountingHorses$Tape"
def TX7 : u_T := fun k => match k with
  | 0 => ("CountingHorses$Tape", "bytes", "[I", true)
  | 1 => ("CountingHorses$Tape", "kind", "[I", true)
  | 2 => ("CountingHorses$Tape", "at", "[I", true)
  | 3 => ("CountingHorses$Tape", "number", "[I", true)
  | 4 => ("CountingHorses$Tape", "length", "I", false)
  | _ => ("CountingHorses$Tape", "tokens", "I", false)
def tyX7 : Nat → FieldType := fun k => match k with
  | 0 => .array .int
  | 1 => .array .int
  | 2 => .array .int
  | 3 => .array .int
  | 4 => .int
  | _ => .int
abbrev wsX70 : List Cond := u_ws RX7 TX7 6
theorem nmX7 : ∀ a, a < 6 → ∀ b, b < 6 → a ≠ b → (TX7 a).2.1 ≠ (TX7 b).2.1 := by decide +kernel
theorem tyX7_ok : ∀ k, k < 6 → parseFieldDescriptor (TX7 k).2.2.1 = some (tyX7 k) := by decide +kernel
abbrev cX7_init : ByteArray := prog_9_method_1_code
def yX7_init : MethodName := ⟨RX7, "<init>", "()V"⟩
abbrev cX7_take : ByteArray := prog_9_method_2_code
def yX7_take : MethodName := ⟨RX7, "take", "(I)V"⟩
abbrev cX7_split : ByteArray := prog_9_method_3_code
def yX7_split : MethodName := ⟨RX7, "split", "()V"⟩
abbrev cX7_put : ByteArray := prog_9_method_4_code
def yX7_put : MethodName := ⟨RX7, "put", "(III)V"⟩
abbrev cX7_splitOff : ByteArray := prog_9_method_5_code
def yX7_splitOff : MethodName := ⟨RX7, "splitOff", "(I)I"⟩
abbrev cX7_isLetter : ByteArray := prog_9_method_6_code
def yX7_isLetter : MethodName := ⟨RX7, "isLetter", "(I)Z"⟩
abbrev cX7_isDigit : ByteArray := prog_9_method_7_code
def yX7_isDigit : MethodName := ⟨RX7, "isDigit", "(I)Z"⟩
abbrev cX7_wideKind : ByteArray := prog_9_method_8_code
def yX7_wideKind : MethodName := ⟨RX7, "wideKind", "(I)I"⟩
abbrev cX7_signKind : ByteArray := prog_9_method_9_code
def yX7_signKind : MethodName := ⟨RX7, "signKind", "(C)I"⟩
abbrev cX7_wordKind : ByteArray := prog_9_method_10_code
def yX7_wordKind : MethodName := ⟨RX7, "wordKind", "(II)I"⟩
abbrev cX7_isWord : ByteArray := prog_9_method_11_code
def yX7_isWord : MethodName := ⟨RX7, "isWord", "(III)Z"⟩
def RX8 : String := "CountingHorses$Team"
def TX8 : u_T := fun k => match k with
  | 0 => ("CountingHorses$Team", "best", "[I", true)
  | 1 => ("CountingHorses$Team", "order", "[I", true)
  | 2 => ("CountingHorses$Team", "size", "I", false)
  | _ => ("CountingHorses$Team", "oats", "I", false)
def tyX8 : Nat → FieldType := fun k => match k with
  | 0 => .array .int
  | 1 => .array .int
  | 2 => .int
  | _ => .int
abbrev wsX80 : List Cond := u_ws RX8 TX8 4
theorem nmX8 : ∀ a, a < 4 → ∀ b, b < 4 → a ≠ b → (TX8 a).2.1 ≠ (TX8 b).2.1 := by decide +kernel
theorem tyX8_ok : ∀ k, k < 4 → parseFieldDescriptor (TX8 k).2.2.1 = some (tyX8 k) := by decide +kernel
abbrev cX8_init : ByteArray := prog_10_method_1_code
def yX8_init : MethodName := ⟨RX8, "<init>", "()V"⟩
abbrev cX8_find : ByteArray := prog_10_method_2_code
def yX8_find : MethodName := ⟨RX8, "find", "(LCountingHorses$Stops;II)V"⟩
abbrev cX8_seek : ByteArray := prog_10_method_3_code
def yX8_seek : MethodName := ⟨RX8, "seek", "(LCountingHorses$Stops;IIII)V"⟩
abbrev cX8_isHarnessed : ByteArray := prog_10_method_4_code
def yX8_isHarnessed : MethodName := ⟨RX8, "isHarnessed", "(II)Z"⟩
def RX9 : String := "CountingHorses$Text"
def TX9 : u_T := fun k => match k with
  | 0 => ("CountingHorses$Text", "code", "[I", true)
  | 1 => ("CountingHorses$Text", "lawFrom", "[I", true)
  | 2 => ("CountingHorses$Text", "lawTo", "[I", true)
  | 3 => ("CountingHorses$Text", "clauseKind", "[I", true)
  | 4 => ("CountingHorses$Text", "clauseNumber", "[I", true)
  | 5 => ("CountingHorses$Text", "length", "I", false)
  | _ => ("CountingHorses$Text", "clauses", "I", false)
def tyX9 : Nat → FieldType := fun k => match k with
  | 0 => .array .int
  | 1 => .array .int
  | 2 => .array .int
  | 3 => .array .int
  | 4 => .array .int
  | 5 => .int
  | _ => .int
abbrev wsX90 : List Cond := u_ws RX9 TX9 7
theorem nmX9 : ∀ a, a < 7 → ∀ b, b < 7 → a ≠ b → (TX9 a).2.1 ≠ (TX9 b).2.1 := by decide +kernel
theorem tyX9_ok : ∀ k, k < 7 → parseFieldDescriptor (TX9 k).2.2.1 = some (tyX9 k) := by decide +kernel
abbrev cX9_init : ByteArray := prog_11_method_1_code
def yX9_init : MethodName := ⟨RX9, "<init>", "()V"⟩
abbrev cX9_clear : ByteArray := prog_11_method_2_code
def yX9_clear : MethodName := ⟨RX9, "clear", "()V"⟩
abbrev cX9_has : ByteArray := prog_11_method_3_code
def yX9_has : MethodName := ⟨RX9, "has", "(I)Z"⟩
abbrev cX9_put : ByteArray := prog_11_method_4_code
def yX9_put : MethodName := ⟨RX9, "put", "(I)V"⟩
abbrev cX9_add : ByteArray := prog_11_method_5_code
def yX9_add : MethodName := ⟨RX9, "add", "(II)V"⟩
def RX10 : String := "CountingHorses$World"
def TX10 : u_T := fun k => match k with
  | 0 => ("CountingHorses$World", "road", "LCountingHorses$Road;", true)
  | 1 => ("CountingHorses$World", "stable", "LCountingHorses$Stable;", true)
  | 2 => ("CountingHorses$World", "mail", "LCountingHorses$Mail;", true)
  | 3 => ("CountingHorses$World", "stepsBack", "LCountingHorses$StepsBack;", true)
  | 4 => ("CountingHorses$World", "seenAt", "[I", true)
  | 5 => ("CountingHorses$World", "triedHorse", "[I", true)
  | 6 => ("CountingHorses$World", "triedFrom", "[I", true)
  | 7 => ("CountingHorses$World", "triedStop", "[I", true)
  | 8 => ("CountingHorses$World", "slip", "I", false)
  | 9 => ("CountingHorses$World", "texts", "I", false)
  | 10 => ("CountingHorses$World", "ruling", "I", false)
  | 11 => ("CountingHorses$World", "seen", "I", false)
  | _ => ("CountingHorses$World", "tried", "I", false)
def tyX10 : Nat → FieldType := fun k => match k with
  | 0 => .object "CountingHorses$Road"
  | 1 => .object "CountingHorses$Stable"
  | 2 => .object "CountingHorses$Mail"
  | 3 => .object "CountingHorses$StepsBack"
  | 4 => .array .int
  | 5 => .array .int
  | 6 => .array .int
  | 7 => .array .int
  | 8 => .int
  | 9 => .int
  | 10 => .int
  | 11 => .int
  | _ => .int
abbrev wsX100 : List Cond := u_ws RX10 TX10 13
theorem nmX10 : ∀ a, a < 13 → ∀ b, b < 13 → a ≠ b → (TX10 a).2.1 ≠ (TX10 b).2.1 := by decide +kernel
theorem tyX10_ok : ∀ k, k < 13 → parseFieldDescriptor (TX10 k).2.2.1 = some (tyX10 k) := by decide +kernel
abbrev cX10_init : ByteArray := prog_12_method_1_code
def yX10_init : MethodName := ⟨RX10, "<init>", "()V"⟩
abbrev cX10_copyFrom : ByteArray := prog_12_method_2_code
def yX10_copyFrom : MethodName := ⟨RX10, "copyFrom", "(LCountingHorses$World;)V"⟩
def RX11 : String := "CountingHorses"
def TX11 : u_T := fun k => match k with
  | 0 => ("CountingHorses", "stops", "LCountingHorses$Stops;", true)
  | 1 => ("CountingHorses", "driver", "LCountingHorses$Driver;", true)
  | 2 => ("CountingHorses", "now", "LCountingHorses$World;", true)
  | 3 => ("CountingHorses", "kept", "LCountingHorses$World;", true)
  | 4 => ("CountingHorses", "reader", "LCountingHorses$Reader;", true)
  | 5 => ("CountingHorses", "team", "LCountingHorses$Team;", true)
  | _ => ("CountingHorses", "costs", "[I", true)
def tyX11 : Nat → FieldType := fun k => match k with
  | 0 => .object "CountingHorses$Stops"
  | 1 => .object "CountingHorses$Driver"
  | 2 => .object "CountingHorses$World"
  | 3 => .object "CountingHorses$World"
  | 4 => .object "CountingHorses$Reader"
  | 5 => .object "CountingHorses$Team"
  | _ => .array .int
abbrev wsX110 : List Cond := u_ws RX11 TX11 7
theorem nmX11 : ∀ a, a < 7 → ∀ b, b < 7 → a ≠ b → (TX11 a).2.1 ≠ (TX11 b).2.1 := by decide +kernel
theorem tyX11_ok : ∀ k, k < 7 → parseFieldDescriptor (TX11 k).2.2.1 = some (tyX11 k) := by decide +kernel
abbrev cX11_init : ByteArray := prog_1_method_1_code
def yX11_init : MethodName := ⟨RX11, "<init>", "()V"⟩
abbrev cX11_mud : ByteArray := prog_1_method_2_code
def yX11_mud : MethodName := ⟨RX11, "mud", "(III)Z"⟩
abbrev cX11_bridge : ByteArray := prog_1_method_3_code
def yX11_bridge : MethodName := ⟨RX11, "bridge", "(II)I"⟩
abbrev cX11_inn : ByteArray := prog_1_method_4_code
def yX11_inn : MethodName := ⟨RX11, "inn", "(I)I"⟩
abbrev cX11_move : ByteArray := prog_1_method_5_code
def yX11_move : MethodName := ⟨RX11, "move", "(II)Z"⟩
abbrev cX11_horse : ByteArray := prog_1_method_6_code
def yX11_horse : MethodName := ⟨RX11, "horse", "(II)I"⟩
abbrev cX11_weather : ByteArray := prog_1_method_7_code
def yX11_weather : MethodName := ⟨RX11, "weather", "(II)Z"⟩
abbrev cX11_feed : ByteArray := prog_1_method_8_code
def yX11_feed : MethodName := ⟨RX11, "feed", "(IIIII)I"⟩
abbrev cX11_end : ByteArray := prog_1_method_9_code
def yX11_end : MethodName := ⟨RX11, "end", "(I)I"⟩
abbrev cX11_text : ByteArray := prog_1_method_10_code
def yX11_text : MethodName := ⟨RX11, "text", "()I"⟩
abbrev cX11_fault : ByteArray := prog_1_method_11_code
def yX11_fault : MethodName := ⟨RX11, "fault", "(I)I"⟩
abbrev cX11_by : ByteArray := prog_1_method_12_code
def yX11_by : MethodName := ⟨RX11, "by", "(I)Z"⟩
abbrev cX11_start : ByteArray := prog_1_method_13_code
def yX11_start : MethodName := ⟨RX11, "start", "(I)Z"⟩
abbrev cX11_would : ByteArray := prog_1_method_14_code
def yX11_would : MethodName := ⟨RX11, "would", "(III)I"⟩
abbrev cX11_drive : ByteArray := prog_1_method_15_code
def yX11_drive : MethodName := ⟨RX11, "drive", "(I)I"⟩
abbrev cX11_pass : ByteArray := prog_1_method_16_code
def yX11_pass : MethodName := ⟨RX11, "pass", "(I)I"⟩
abbrev cX11_played : ByteArray := prog_1_method_17_code
def yX11_played : MethodName := ⟨RX11, "played", "(I)I"⟩
abbrev cX11_undo : ByteArray := prog_1_method_18_code
def yX11_undo : MethodName := ⟨RX11, "undo", "()I"⟩
abbrev cX11_coach : ByteArray := prog_1_method_19_code
def yX11_coach : MethodName := ⟨RX11, "coach", "(I)I"⟩
abbrev cX11_harness : ByteArray := prog_1_method_20_code
def yX11_harness : MethodName := ⟨RX11, "harness", "(III)I"⟩
abbrev cX11_least : ByteArray := prog_1_method_21_code
def yX11_least : MethodName := ⟨RX11, "least", "(IIZ)I"⟩
abbrev cX11_thief : ByteArray := prog_1_method_22_code
def yX11_thief : MethodName := ⟨RX11, "thief", "(III)I"⟩
abbrev cX11_seen : ByteArray := prog_1_method_23_code
def yX11_seen : MethodName := ⟨RX11, "seen", "(I)I"⟩
abbrev cX11_who : ByteArray := prog_1_method_24_code
def yX11_who : MethodName := ⟨RX11, "who", "(II)I"⟩
abbrev cX11_tried : ByteArray := prog_1_method_25_code
def yX11_tried : MethodName := ⟨RX11, "tried", "(III)I"⟩
abbrev cX11_taught : ByteArray := prog_1_method_26_code
def yX11_taught : MethodName := ⟨RX11, "taught", "()I"⟩
abbrev cX11_never : ByteArray := prog_1_method_27_code
def yX11_never : MethodName := ⟨RX11, "never", "()I"⟩
abbrev cX11_image : ByteArray := prog_1_method_28_code
def yX11_image : MethodName := ⟨RX11, "image", "()I"⟩
abbrev cX11_back : ByteArray := prog_1_method_29_code
def yX11_back : MethodName := ⟨RX11, "back", "()I"⟩
abbrev cX11_about : ByteArray := prog_1_method_30_code
def yX11_about : MethodName := ⟨RX11, "about", "(I)I"⟩
abbrev cX11_isWithin : ByteArray := prog_1_method_31_code
def yX11_isWithin : MethodName := ⟨RX11, "isWithin", "(III)Z"⟩
abbrev cX11_cut : ByteArray := prog_1_method_32_code
def yX11_cut : MethodName := ⟨RX11, "cut", "(III)I"⟩
abbrev cX11_isPlace : ByteArray := prog_1_method_33_code
def yX11_isPlace : MethodName := ⟨RX11, "isPlace", "(I)Z"⟩
abbrev cX11_isHorse : ByteArray := prog_1_method_34_code
def yX11_isHorse : MethodName := ⟨RX11, "isHorse", "(I)Z"⟩
abbrev cX11_driveByHand : ByteArray := prog_1_method_35_code
def yX11_driveByHand : MethodName := ⟨RX11, "driveByHand", "(I)Z"⟩
abbrev cX11_passDays : ByteArray := prog_1_method_36_code
def yX11_passDays : MethodName := ⟨RX11, "passDays", "(I)Z"⟩
abbrev cX11_goOnFrom : ByteArray := prog_1_method_37_code
def yX11_goOnFrom : MethodName := ⟨RX11, "goOnFrom", "(I)V"⟩
abbrev cX11_leads : ByteArray := prog_1_method_38_code
def yX11_leads : MethodName := ⟨RX11, "leads", "(III)Z"⟩
abbrev cX11_ordersFrom : ByteArray := prog_1_method_39_code
def yX11_ordersFrom : MethodName := ⟨RX11, "ordersFrom", "(III)I"⟩
abbrev cX11_fitsTried : ByteArray := prog_1_method_40_code
def yX11_fitsTried : MethodName := ⟨RX11, "fitsTried", "(LCountingHorses$Text;)Z"⟩
abbrev cX11_isStoppedAt : ByteArray := prog_1_method_41_code
def yX11_isStoppedAt : MethodName := ⟨RX11, "isStoppedAt", "(I)Z"⟩
def RX12 : String := "CountingHorsesModel"
def TX12 : u_T := fun k => match k with
  | 0 => ("CountingHorsesModel", "a", "[I", true)
  | 1 => ("CountingHorsesModel", "image", "[I", true)
  | 2 => ("CountingHorsesModel", "texts", "[I", true)
  | 3 => ("CountingHorsesModel", "tape", "[I", true)
  | 4 => ("CountingHorsesModel", "taped", "I", false)
  | 5 => ("CountingHorsesModel", "fault", "I", false)
  | 6 => ("CountingHorsesModel", "faultPlace", "I", false)
  | 7 => ("CountingHorsesModel", "at", "I", false)
  | 8 => ("CountingHorsesModel", "place", "I", false)
  | 9 => ("CountingHorsesModel", "token", "I", false)
  | 10 => ("CountingHorsesModel", "number", "I", false)
  | 11 => ("CountingHorsesModel", "word", "J", false)
  | 12 => ("CountingHorsesModel", "text0", "I", false)
  | 13 => ("CountingHorsesModel", "clauses", "I", false)
  | 14 => ("CountingHorsesModel", "written", "I", false)
  | 15 => ("CountingHorsesModel", "came", "I", false)
  | 16 => ("CountingHorsesModel", "pile", "[I", true)
  | 17 => ("CountingHorsesModel", "piled", "I", false)
  | 18 => ("CountingHorsesModel", "opens", "I", false)
  | 19 => ("CountingHorsesModel", "isWhole", "Z", false)
  | 20 => ("CountingHorsesModel", "sort0", "I", false)
  | 21 => ("CountingHorsesModel", "once", "I", false)
  | 22 => ("CountingHorsesModel", "named", "[I", true)
  | 23 => ("CountingHorsesModel", "values", "[J", true)
  | 24 => ("CountingHorsesModel", "truth", "[Z", true)
  | 25 => ("CountingHorsesModel", "stop", "I", false)
  | 26 => ("CountingHorsesModel", "eaten", "I", false)
  | 27 => ("CountingHorsesModel", "steps", "I", false)
  | 28 => ("CountingHorsesModel", "row", "[I", true)
  | 29 => ("CountingHorsesModel", "stops", "[I", true)
  | 30 => ("CountingHorsesModel", "oats", "[I", true)
  | 31 => ("CountingHorsesModel", "best", "[I", true)
  | 32 => ("CountingHorsesModel", "allStops", "[I", true)
  | 33 => ("CountingHorsesModel", "allOats", "[I", true)
  | 34 => ("CountingHorsesModel", "cost", "[I", true)
  | _ => ("CountingHorsesModel", "ways", "[I", true)
def tyX12 : Nat → FieldType := fun k => match k with
  | 0 => .array .int
  | 1 => .array .int
  | 2 => .array .int
  | 3 => .array .int
  | 4 => .int
  | 5 => .int
  | 6 => .int
  | 7 => .int
  | 8 => .int
  | 9 => .int
  | 10 => .int
  | 11 => .long
  | 12 => .int
  | 13 => .int
  | 14 => .int
  | 15 => .int
  | 16 => .array .int
  | 17 => .int
  | 18 => .int
  | 19 => .boolean
  | 20 => .int
  | 21 => .int
  | 22 => .array .int
  | 23 => .array .long
  | 24 => .array .boolean
  | 25 => .int
  | 26 => .int
  | 27 => .int
  | 28 => .array .int
  | 29 => .array .int
  | 30 => .array .int
  | 31 => .array .int
  | 32 => .array .int
  | 33 => .array .int
  | 34 => .array .int
  | _ => .array .int
abbrev wsX120 : List Cond := u_ws RX12 TX12 36
theorem nmX12 : ∀ a, a < 36 → ∀ b, b < 36 → a ≠ b → (TX12 a).2.1 ≠ (TX12 b).2.1 := by decide +kernel
theorem tyX12_ok : ∀ k, k < 36 → parseFieldDescriptor (TX12 k).2.2.1 = some (tyX12 k) := by decide +kernel
abbrev cX12_init : ByteArray := prog_14_method_1_code
def yX12_init : MethodName := ⟨RX12, "<init>", "()V"⟩
abbrev cX12_copy : ByteArray := prog_14_method_2_code
def yX12_copy : MethodName := ⟨RX12, "copy", "([I[I)V"⟩
abbrev cX12_isIn : ByteArray := prog_14_method_3_code
def yX12_isIn : MethodName := ⟨RX12, "isIn", "(III)Z"⟩
abbrev cX12_between : ByteArray := prog_14_method_4_code
def yX12_between : MethodName := ⟨RX12, "between", "(JI)I"⟩
abbrev cX12_has : ByteArray := prog_14_method_5_code
def yX12_has : MethodName := ⟨RX12, "has", "(II)Z"⟩
abbrev cX12_bits : ByteArray := prog_14_method_6_code
def yX12_bits : MethodName := ⟨RX12, "bits", "(I)I"⟩
abbrev cX12_isHorse : ByteArray := prog_14_method_7_code
def yX12_isHorse : MethodName := ⟨RX12, "isHorse", "(I)Z"⟩
abbrev cX12_isPlace : ByteArray := prog_14_method_8_code
def yX12_isPlace : MethodName := ⟨RX12, "isPlace", "(I)Z"⟩
abbrev cX12_mud : ByteArray := prog_14_method_9_code
def yX12_mud : MethodName := ⟨RX12, "mud", "(III)Z"⟩
abbrev cX12_bridge : ByteArray := prog_14_method_10_code
def yX12_bridge : MethodName := ⟨RX12, "bridge", "(II)I"⟩
abbrev cX12_inn : ByteArray := prog_14_method_11_code
def yX12_inn : MethodName := ⟨RX12, "inn", "(I)I"⟩
abbrev cX12_horse : ByteArray := prog_14_method_12_code
def yX12_horse : MethodName := ⟨RX12, "horse", "(II)I"⟩
abbrev cX12_weather : ByteArray := prog_14_method_13_code
def yX12_weather : MethodName := ⟨RX12, "weather", "(II)Z"⟩
abbrev cX12_four : ByteArray := prog_14_method_14_code
def yX12_four : MethodName := ⟨RX12, "four", "(I)V"⟩
abbrev cX12_feed : ByteArray := prog_14_method_15_code
def yX12_feed : MethodName := ⟨RX12, "feed", "(IIIII)I"⟩
abbrev cX12_end : ByteArray := prog_14_method_16_code
def yX12_end : MethodName := ⟨RX12, "end", "(I)I"⟩
abbrev cX12_byteAt : ByteArray := prog_14_method_17_code
def yX12_byteAt : MethodName := ⟨RX12, "byteAt", "(I)I"⟩
abbrev cX12_isLetter : ByteArray := prog_14_method_18_code
def yX12_isLetter : MethodName := ⟨RX12, "isLetter", "(I)Z"⟩
abbrev cX12_isDigit : ByteArray := prog_14_method_19_code
def yX12_isDigit : MethodName := ⟨RX12, "isDigit", "(I)Z"⟩
abbrev cX12_nextToken : ByteArray := prog_14_method_20_code
def yX12_nextToken : MethodName := ⟨RX12, "nextToken", "()V"⟩
abbrev cX12_w3 : ByteArray := prog_14_method_21_code
def yX12_w3 : MethodName := ⟨RX12, "w3", "(III)J"⟩
abbrev cX12_w5 : ByteArray := prog_14_method_22_code
def yX12_w5 : MethodName := ⟨RX12, "w5", "(IIIII)J"⟩
abbrev cX12_w4 : ByteArray := prog_14_method_23_code
def yX12_w4 : MethodName := ⟨RX12, "w4", "(IIII)J"⟩
abbrev cX12_w6 : ByteArray := prog_14_method_24_code
def yX12_w6 : MethodName := ⟨RX12, "w6", "(IIIIII)J"⟩
abbrev cX12_isWord : ByteArray := prog_14_method_25_code
def yX12_isWord : MethodName := ⟨RX12, "isWord", "(J)Z"⟩
abbrev cX12_emit : ByteArray := prog_14_method_26_code
def yX12_emit : MethodName := ⟨RX12, "emit", "(II)V"⟩
abbrev cX12_push : ByteArray := prog_14_method_27_code
def yX12_push : MethodName := ⟨RX12, "push", "(I)V"⟩
abbrev cX12_rank : ByteArray := prog_14_method_28_code
def yX12_rank : MethodName := ⟨RX12, "rank", "(I)I"⟩
abbrev cX12_settle : ByteArray := prog_14_method_29_code
def yX12_settle : MethodName := ⟨RX12, "settle", "(I)V"⟩
abbrev cX12_whole : ByteArray := prog_14_method_30_code
def yX12_whole : MethodName := ⟨RX12, "whole", "()V"⟩
abbrev cX12_marker : ByteArray := prog_14_method_31_code
def yX12_marker : MethodName := ⟨RX12, "marker", "()I"⟩
abbrev cX12_kindOpen : ByteArray := prog_14_method_32_code
def yX12_kindOpen : MethodName := ⟨RX12, "kindOpen", "(Z)I"⟩
abbrev cX12_isCompared : ByteArray := prog_14_method_33_code
def yX12_isCompared : MethodName := ⟨RX12, "isCompared", "()Z"⟩
abbrev cX12_isAskAhead : ByteArray := prog_14_method_34_code
def yX12_isAskAhead : MethodName := ⟨RX12, "isAskAhead", "(Z)Z"⟩
abbrev cX12_opensBy : ByteArray := prog_14_method_35_code
def yX12_opensBy : MethodName := ⟨RX12, "opensBy", "(I)I"⟩
abbrev cX12_beginOne : ByteArray := prog_14_method_36_code
def yX12_beginOne : MethodName := ⟨RX12, "beginOne", "(Z)I"⟩
abbrev cX12_compareOf : ByteArray := prog_14_method_37_code
def yX12_compareOf : MethodName := ⟨RX12, "compareOf", "()I"⟩
abbrev cX12_betweenOf : ByteArray := prog_14_method_38_code
def yX12_betweenOf : MethodName := ⟨RX12, "betweenOf", "(Z)I"⟩
abbrev cX12_behindOne : ByteArray := prog_14_method_39_code
def yX12_behindOne : MethodName := ⟨RX12, "behindOne", "(Z)Z"⟩
abbrev cX12_parsed : ByteArray := prog_14_method_40_code
def yX12_parsed : MethodName := ⟨RX12, "parsed", "(Z)I"⟩
abbrev cX12_nameOf : ByteArray := prog_14_method_41_code
def yX12_nameOf : MethodName := ⟨RX12, "nameOf", "()I"⟩
abbrev cX12_isOf : ByteArray := prog_14_method_42_code
def yX12_isOf : MethodName := ⟨RX12, "isOf", "(I)Z"⟩
abbrev cX12_sortOf : ByteArray := prog_14_method_43_code
def yX12_sortOf : MethodName := ⟨RX12, "sortOf", "()I"⟩
abbrev cX12_figure : ByteArray := prog_14_method_44_code
def yX12_figure : MethodName := ⟨RX12, "figure", "(III)I"⟩
abbrev cX12_clause : ByteArray := prog_14_method_45_code
def yX12_clause : MethodName := ⟨RX12, "clause", "()I"⟩
abbrev cX12_readText : ByteArray := prog_14_method_46_code
def yX12_readText : MethodName := ⟨RX12, "readText", "()I"⟩
abbrev cX12_text : ByteArray := prog_14_method_47_code
def yX12_text : MethodName := ⟨RX12, "text", "()I"⟩
abbrev cX12_fault : ByteArray := prog_14_method_48_code
def yX12_fault : MethodName := ⟨RX12, "fault", "(I)I"⟩
abbrev cX12_by : ByteArray := prog_14_method_49_code
def yX12_by : MethodName := ⟨RX12, "by", "(I)Z"⟩
abbrev cX12_clip : ByteArray := prog_14_method_50_code
def yX12_clip : MethodName := ⟨RX12, "clip", "(J)J"⟩
abbrev cX12_two : ByteArray := prog_14_method_51_code
def yX12_two : MethodName := ⟨RX12, "two", "(IJJ)J"⟩
abbrev cX12_isAsked : ByteArray := prog_14_method_52_code
def yX12_isAsked : MethodName := ⟨RX12, "isAsked", "(IJJ)Z"⟩
abbrev cX12_work : ByteArray := prog_14_method_53_code
def yX12_work : MethodName := ⟨RX12, "work", "(II)V"⟩
abbrev cX12_clauseOf : ByteArray := prog_14_method_54_code
def yX12_clauseOf : MethodName := ⟨RX12, "clauseOf", "(II)I"⟩
abbrev cX12_sumOf : ByteArray := prog_14_method_55_code
def yX12_sumOf : MethodName := ⟨RX12, "sumOf", "(IIII)I"⟩
abbrev cX12_nameHorse : ByteArray := prog_14_method_56_code
def yX12_nameHorse : MethodName := ⟨RX12, "nameHorse", "(II)V"⟩
abbrev cX12_over : ByteArray := prog_14_method_57_code
def yX12_over : MethodName := ⟨RX12, "over", "(I)I"⟩
abbrev cX12_slip : ByteArray := prog_14_method_58_code
def yX12_slip : MethodName := ⟨RX12, "slip", "()I"⟩
abbrev cX12_go : ByteArray := prog_14_method_59_code
def yX12_go : MethodName := ⟨RX12, "go", "(IIIZ)V"⟩
abbrev cX12_stopOf : ByteArray := prog_14_method_60_code
def yX12_stopOf : MethodName := ⟨RX12, "stopOf", "(II)I"⟩
abbrev cX12_would : ByteArray := prog_14_method_61_code
def yX12_would : MethodName := ⟨RX12, "would", "(III)I"⟩
abbrev cX12_keep : ByteArray := prog_14_method_62_code
def yX12_keep : MethodName := ⟨RX12, "keep", "()V"⟩
abbrev cX12_undo : ByteArray := prog_14_method_63_code
def yX12_undo : MethodName := ⟨RX12, "undo", "()I"⟩
abbrev cX12_move : ByteArray := prog_14_method_64_code
def yX12_move : MethodName := ⟨RX12, "move", "(II)Z"⟩
abbrev cX12_start : ByteArray := prog_14_method_65_code
def yX12_start : MethodName := ⟨RX12, "start", "(I)Z"⟩
abbrev cX12_drive : ByteArray := prog_14_method_66_code
def yX12_drive : MethodName := ⟨RX12, "drive", "(I)I"⟩
abbrev cX12_pass : ByteArray := prog_14_method_67_code
def yX12_pass : MethodName := ⟨RX12, "pass", "(I)I"⟩
abbrev cX12_isPlayed : ByteArray := prog_14_method_68_code
def yX12_isPlayed : MethodName := ⟨RX12, "isPlayed", "(I)Z"⟩
abbrev cX12_played : ByteArray := prog_14_method_69_code
def yX12_played : MethodName := ⟨RX12, "played", "(I)I"⟩
abbrev cX12_innAt : ByteArray := prog_14_method_70_code
def yX12_innAt : MethodName := ⟨RX12, "innAt", "(I)I"⟩
abbrev cX12_coach : ByteArray := prog_14_method_71_code
def yX12_coach : MethodName := ⟨RX12, "coach", "(I)I"⟩
abbrev cX12_isTwice : ByteArray := prog_14_method_72_code
def yX12_isTwice : MethodName := ⟨RX12, "isTwice", "(I)Z"⟩
abbrev cX12_tryRows : ByteArray := prog_14_method_73_code
def yX12_tryRows : MethodName := ⟨RX12, "tryRows", "(III)I"⟩
abbrev cX12_harness : ByteArray := prog_14_method_74_code
def yX12_harness : MethodName := ⟨RX12, "harness", "(III)I"⟩
abbrev cX12_findAll : ByteArray := prog_14_method_75_code
def yX12_findAll : MethodName := ⟨RX12, "findAll", "()V"⟩
abbrev cX12_least : ByteArray := prog_14_method_76_code
def yX12_least : MethodName := ⟨RX12, "least", "(IIZ)I"⟩
abbrev cX12_isThief : ByteArray := prog_14_method_77_code
def yX12_isThief : MethodName := ⟨RX12, "isThief", "(III)Z"⟩
abbrev cX12_thief : ByteArray := prog_14_method_78_code
def yX12_thief : MethodName := ⟨RX12, "thief", "(III)I"⟩
abbrev cX12_seen : ByteArray := prog_14_method_79_code
def yX12_seen : MethodName := ⟨RX12, "seen", "(I)I"⟩
abbrev cX12_makers : ByteArray := prog_14_method_80_code
def yX12_makers : MethodName := ⟨RX12, "makers", "(II)I"⟩
abbrev cX12_orders : ByteArray := prog_14_method_81_code
def yX12_orders : MethodName := ⟨RX12, "orders", "(I)I"⟩
abbrev cX12_who : ByteArray := prog_14_method_82_code
def yX12_who : MethodName := ⟨RX12, "who", "(II)I"⟩
abbrev cX12_tried : ByteArray := prog_14_method_83_code
def yX12_tried : MethodName := ⟨RX12, "tried", "(III)I"⟩
abbrev cX12_isTaught : ByteArray := prog_14_method_84_code
def yX12_isTaught : MethodName := ⟨RX12, "isTaught", "(I)Z"⟩
abbrev cX12_taught : ByteArray := prog_14_method_85_code
def yX12_taught : MethodName := ⟨RX12, "taught", "()I"⟩
abbrev cX12_never : ByteArray := prog_14_method_86_code
def yX12_never : MethodName := ⟨RX12, "never", "()I"⟩
abbrev cX12_image : ByteArray := prog_14_method_87_code
def yX12_image : MethodName := ⟨RX12, "image", "()I"⟩
abbrev cX12_back : ByteArray := prog_14_method_88_code
def yX12_back : MethodName := ⟨RX12, "back", "()I"⟩
abbrev cX12_about : ByteArray := prog_14_method_89_code
def yX12_about : MethodName := ⟨RX12, "about", "(I)I"⟩
def RJx145de : String := "java/io/Serializable"
def RJx9f9b0 : String := "java/lang/CharSequence"
def RJ11 : String := "java/lang/Character"
abbrev cJ11_isValidCodePoint_9a6ad : ByteArray := prog_15_method_11_code
def yJ11_isValidCodePoint_9a6ad : MethodName := ⟨RJ11, "isValidCodePoint", "(I)Z"⟩
abbrev cJ11_highSurrogate_5068e : ByteArray := prog_15_method_28_code
def yJ11_highSurrogate_5068e : MethodName := ⟨RJ11, "highSurrogate", "(I)C"⟩
abbrev cJ11_lowSurrogate_5068e : ByteArray := prog_15_method_29_code
def yJ11_lowSurrogate_5068e : MethodName := ⟨RJ11, "lowSurrogate", "(I)C"⟩
def RJxb160c : String := "java/lang/Comparable"
def RJ6 : String := "java/lang/Integer"
abbrev cJ6_bitCount_0f7a4 : ByteArray := prog_16_method_49_code
def yJ6_bitCount_0f7a4 : MethodName := ⟨RJ6, "bitCount", "(I)I"⟩
def RJ9 : String := "java/lang/Math"
abbrev cJ9_max_7cf53 : ByteArray := prog_17_method_65_code
def yJ9_max_7cf53 : MethodName := ⟨RJ9, "max", "(II)I"⟩
abbrev cJ9_min_7cf53 : ByteArray := prog_17_method_69_code
def yJ9_min_7cf53 : MethodName := ⟨RJ9, "min", "(II)I"⟩
def RJ0 : String := "java/lang/String"
abbrev cJ0_length_8abf5 : ByteArray := prog_18_method_54_code
def yJ0_length_8abf5 : MethodName := ⟨RJ0, "length", "()I"⟩
abbrev cJ0_charAt_5068e : ByteArray := prog_18_method_56_code
def yJ0_charAt_5068e : MethodName := ⟨RJ0, "charAt", "(I)C"⟩
abbrev cJ0_indexOf_0f7a4 : ByteArray := prog_18_method_79_code
def yJ0_indexOf_0f7a4 : MethodName := ⟨RJ0, "indexOf", "(I)I"⟩
abbrev cJ0_indexOf_7cf53 : ByteArray := prog_18_method_80_code
def yJ0_indexOf_7cf53 : MethodName := ⟨RJ0, "indexOf", "(II)I"⟩
abbrev cJ0_coder_7d493 : ByteArray := prog_18_method_152_code
def yJ0_coder_7d493 : MethodName := ⟨RJ0, "coder", "()B"⟩
abbrev cJ0_isLatin1_aae02 : ByteArray := prog_18_method_154_code
def yJ0_isLatin1_aae02 : MethodName := ⟨RJ0, "isLatin1", "()Z"⟩
abbrev cJ0_checkIndex_df160 : ByteArray := prog_18_method_155_code
def yJ0_checkIndex_df160 : MethodName := ⟨RJ0, "checkIndex", "(II)V"⟩
abbrev cJ0_checkBoundsBeginEnd_23922 : ByteArray := prog_18_method_158_code
def yJ0_checkBoundsBeginEnd_23922 : MethodName := ⟨RJ0, "checkBoundsBeginEnd", "(III)V"⟩
def RJ1 : String := "java/lang/StringLatin1"
abbrev cJ1_charAt_3b067 : ByteArray := prog_19_method_2_code
def yJ1_charAt_3b067 : MethodName := ⟨RJ1, "charAt", "([BI)C"⟩
abbrev cJ1_canEncode_9a6ad : ByteArray := prog_19_method_4_code
def yJ1_canEncode_9a6ad : MethodName := ⟨RJ1, "canEncode", "(I)Z"⟩
abbrev cJ1_indexOf_4cfef : ByteArray := prog_19_method_22_code
def yJ1_indexOf_4cfef : MethodName := ⟨RJ1, "indexOf", "([BIII)I"⟩
abbrev cJ1_indexOfChar_4cfef : ByteArray := prog_19_method_23_code
def yJ1_indexOfChar_4cfef : MethodName := ⟨RJ1, "indexOfChar", "([BIII)I"⟩
def RJ2 : String := "java/lang/StringUTF16"
abbrev cJ2_getChar_3b067 : ByteArray := prog_20_method_5_code
def yJ2_getChar_3b067 : MethodName := ⟨RJ2, "getChar", "([BI)C"⟩
abbrev cJ2_length_9d52b : ByteArray := prog_20_method_6_code
def yJ2_length_9d52b : MethodName := ⟨RJ2, "length", "([B)I"⟩
abbrev cJ2_indexOf_4cfef : ByteArray := prog_20_method_40_code
def yJ2_indexOf_4cfef : MethodName := ⟨RJ2, "indexOf", "([BIII)I"⟩
abbrev cJ2_indexOfChar_4cfef : ByteArray := prog_20_method_47_code
def yJ2_indexOfChar_4cfef : MethodName := ⟨RJ2, "indexOfChar", "([BIII)I"⟩
abbrev cJ2_indexOfCharUnsafe_4cfef : ByteArray := prog_20_method_48_code
def yJ2_indexOfCharUnsafe_4cfef : MethodName := ⟨RJ2, "indexOfCharUnsafe", "([BIII)I"⟩
abbrev cJ2_indexOfSupplementary_4cfef : ByteArray := prog_20_method_49_code
def yJ2_indexOfSupplementary_4cfef : MethodName := ⟨RJ2, "indexOfSupplementary", "([BIII)I"⟩
abbrev cJ2_charAt_3b067 : ByteArray := prog_20_method_83_code
def yJ2_charAt_3b067 : MethodName := ⟨RJ2, "charAt", "([BI)C"⟩
abbrev cJ2_checkIndex_2214a : ByteArray := prog_20_method_91_code
def yJ2_checkIndex_2214a : MethodName := ⟨RJ2, "checkIndex", "(I[B)V"⟩
abbrev cJ2_checkBoundsBeginEnd_d044e : ByteArray := prog_20_method_93_code
def yJ2_checkBoundsBeginEnd_d044e : MethodName := ⟨RJ2, "checkBoundsBeginEnd", "(II[B)V"⟩
def RJ10 : String := "java/lang/System"
def RJxfd54e : String := "java/lang/constant/Constable"
def RJx3cf43 : String := "java/lang/constant/ConstantDesc"
def RJ7 : String := "java/util/Arrays"
abbrev cJ7_fill_53178 : ByteArray := prog_22_method_103_code
def yJ7_fill_53178 : MethodName := ⟨RJ7, "fill", "([II)V"⟩
def RJ3 : String := "jdk/internal/util/Preconditions"
abbrev cJ3_checkIndex_8e157 : ByteArray := prog_23_method_11_code
def yJ3_checkIndex_8e157 : MethodName := ⟨RJ3, "checkIndex", "(IILjava/util/function/BiFunction;)I"⟩
abbrev cJ3_checkFromToIndex_8c36e : ByteArray := prog_23_method_12_code
def yJ3_checkFromToIndex_8c36e : MethodName := ⟨RJ3, "checkFromToIndex", "(IIILjava/util/function/BiFunction;)I"⟩
def RL : String := "CountingHorsesLaw"
abbrev cL_law : ByteArray := code
abbrev vwCl : List vw_C := [(RX0, TX0, 7), (RX1, TX1, 7), (RX2, TX2, 7), (RX3, TX3, 4), (RX4, TX4, 3), (RX5, TX5, 3), (RX6, TX6, 5), (RX7, TX7, 6), (RX8, TX8, 4), (RX9, TX9, 7), (RX10, TX10, 13), (RX11, TX11, 7), (RX12, TX12, 36)]
end
section
def nwq : List (String × Nat × MethodName) := [(RX11, 9, yX6_init), (RX0, 11, yX10_init), (RX10, 11, yX3_init), (RX10, 20, yX4_init), (RX10, 27, yX1_init), (RX5, 24, yX1_init), (RX0, 24, yX9_init), (RX11, 32, yX10_init), (RX11, 38, yX2_init), (RX2, 11, yX7_init), (RX2, 36, yX9_init), (RX11, 45, yX8_init), (RX7, 62, yX11_isWithin), (RX2, 69, yX11_isWithin), (RX0, 46, yX11_isWithin), (RX0, 113, yX11_cut)]
/-! ===== BASE: one word list for all methods, contracts of one shape, calls in one row ===== -/
def BW : List Cond := lw_tbl.filter goodWord
theorem bw_at {w : Cond} (i : Nat) (h : lw_tbl[i]? = some w) (g : goodWord w = true) : w ∈ BW := List.mem_filter.mpr ⟨List.mem_of_getElem? h, g⟩
theorem bw_good {w : Cond} (h : w ∈ BW) : (w.onTables && w.keeps) = true ∨ ∃ ty, w = .arrayClass ty := good_of_word (List.mem_filter.mp h).2
theorem bw_tbl {w : Cond} (h : w ∈ BW) : w ∈ lw_tbl := (List.mem_filter.mp h).1
theorem bw_in {ws : List Cond} (is : List Nat) (hs : ws = is.filterMap (fun i => lw_tbl[i]?)) (hg : ws.all goodWord = true) : ∀ w ∈ ws, w ∈ BW := by
  intro w hw
  have hg' := List.all_eq_true.mp hg w hw
  rw [hs] at hw
  obtain ⟨i, -, hi⟩ := List.mem_filterMap.mp hw
  exact bw_at i hi hg'
def bws (y : MethodName) (bytes : ByteArray) (maxL : Nat) (ret : Option FieldType) : List Cond := .code y bytes maxL ret :: BW
theorem bws_good {y : MethodName} {bytes : ByteArray} {maxL : Nat} {ret : Option FieldType} (h : Cond.code y bytes maxL ret ∈ BW) : GoodIn BW (bws y bytes maxL ret) := fun w hw => by
  rcases List.mem_cons.mp hw with rfl | h2
  · exact ⟨h, bw_good h⟩
  · exact ⟨h2, bw_good h2⟩
theorem bw_V {own C : String} {idx : Nat} {y : MethodName} {bytes : ByteArray} {maxL : Nat} {ret : Option FieldType} (h1 : Cond.methodLink own idx y ∈ BW) (h2 : Cond.instanceMethod y ∈ BW) (h3 : Cond.selects C y y ∈ BW) (h4 : Cond.initialized C ∈ BW) (h5 : Cond.code y bytes maxL ret ∈ BW) : GoodIn BW (wsV own idx C y (bws y bytes maxL ret)) := by
  intro w hw
  unfold wsV at hw
  rcases List.mem_append.mp hw with h | h
  · simp only [List.mem_cons, List.not_mem_nil, or_false] at h
    rcases h with rfl | rfl | rfl | rfl
    · exact ⟨h1, bw_good h1⟩
    · exact ⟨h2, bw_good h2⟩
    · exact ⟨h3, bw_good h3⟩
    · exact ⟨h4, bw_good h4⟩
  · exact bws_good h5 w h
theorem bw_S {own : String} {idx : Nat} {y : MethodName} {bytes : ByteArray} {maxL : Nat} {ret : Option FieldType} (h1 : Cond.methodLink own idx y ∈ BW) (h2 : Cond.static y ∈ BW) (h4 : Cond.initialized y.cls ∈ BW) (h5 : Cond.code y bytes maxL ret ∈ BW) : GoodIn BW (va_wsS own idx y (bws y bytes maxL ret)) := by
  intro w hw
  unfold va_wsS at hw
  rcases List.mem_append.mp hw with h | h
  · simp only [List.mem_cons, List.not_mem_nil, or_false] at h
    rcases h with rfl | rfl | rfl
    · exact ⟨h1, bw_good h1⟩
    · exact ⟨h2, bw_good h2⟩
    · exact ⟨h4, bw_good h4⟩
  · exact bws_good h5 w h
/-- the nest mates' links, and the arrays over the system's own classes: they aren't handed on as words -/
def NW (U : State) : Prop := (∀ q ∈ nwq, va_Nw (.methodLinkNest q.1 q.2.1 q.2.2 RX11) U) ∧ va_AO RX1 U ∧ va_AO RX9 U
theorem NW.warm {s U : State} (hW : s.WarmedH U.vm) (h : NW s) : NW U := ⟨fun q hq => va_Nw.warmM hW (h.1 q hq), h.2.1.moved hW.alike, h.2.2.moved hW.alike⟩
theorem NW.same {s U : State} (hW : s.vm = U.vm) (h : NW s) : NW U := ⟨fun q hq => va_Nw.same rfl hW (h.1 q hq), h.2.1.moved (by rw [hW]; exact Vm.Alike.refl _), h.2.2.moved (by rw [hW]; exact Vm.Alike.refl _)⟩
abbrev rmv (k mc ms : Nat) : Room := { frames := k, cells := mc, slots := ms, locals := 100 * k }
abbrev vw_Y : Type := List (ClassId × FieldType)
def cPc (D : va_G) (tys : vw_Y) (av : List Value) (wc : va_W) (sz : Nat) : Array Value → State → Prop := va_Pc av (fun U => U.heap.size = sz ∧ va_P D vwCl wc U.heap ∧ va_K D vwCl tys U ∧ va_D (fun _ => True) wc ∧ NW U)
def cB (D : va_G) (tys : vw_Y) (A : Nat → Prop) (u : va_W) (t : State) : Prop := va_P D vwCl u t.heap ∧ va_D A u
theorem cPc_blind {D : va_G} {tys : vw_Y} {av : List Value} {wc : va_W} {sz : Nat} : FrameBlind (cPc D tys av wc sz) := fun a U g mk h => ⟨h.1, h.2.1, h.2.2.1, va_K.moved (u := U) (U := U.calling g mk a) (Vm.Alike.refl U.vm) h.2.2.2.1, h.2.2.2.2.1, NW.same (s := U) (U := U.calling g mk a) rfl h.2.2.2.2.2⟩
/-- a contract with an int (or boolean) for its answer; the world behind it is a list of cells u -/
def Ci (l : Launch) (D : va_G) (tys : vw_Y) (y : MethodName) (bytes : ByteArray) (maxL : Nat) (ret : Option FieldType) (k mc ms : Nat) (av : List Value) (wc : va_W) (post : Int32 → va_W → Prop) : Prop := ∀ sz : Nat, Met l y (bws y bytes maxL ret) (rmv k mc ms) (cPc D tys av wc sz) (va_Qi post (cB D tys (va_A wc sz)) (va_A wc sz)) mc ms (va_A wc sz)
/-- a contract without an answer -/
def Cv (l : Launch) (D : va_G) (tys : vw_Y) (y : MethodName) (bytes : ByteArray) (maxL : Nat) (k mc ms : Nat) (av : List Value) (wc : va_W) (post : va_W → Prop) : Prop := ∀ sz : Nat, Met l y (bws y bytes maxL none) (rmv k mc ms) (cPc D tys av wc sz) (va_Qv post (cB D tys (va_A wc sz)) (va_A wc sz)) mc ms (va_A wc sz)
/-- what every row of a walk stands on -/
def Zx (p : Program) (s : State) (m : MethodId) (args : Array Value) (meth : Method) (c : Code) (cc : ByteArray) (nL : Nat) (ret : Option FieldType) (own : String) (A : Nat → Prop) (tys : vw_Y) (D : va_G) : Prop := p.tables.exec = Jvm.exec ∧ c.code = cc ∧ c.maxLocals = nL ∧ s.vm.findClass own = some m.cls ∧ (∀ w ∈ BW, w.before args s = true) ∧ NW s ∧ va_K D vwCl tys s ∧ (∀ q, s.heap.size ≤ q → A q) ∧ meth.locks = false ∧ meth.sig.returnType = ret
theorem Ci.of {l : Launch} {D : va_G} {tys : vw_Y} {y : MethodName} {bytes : ByteArray} {maxL : Nat} {ret : Option FieldType} {k mc ms : Nat} {av : List Value} {wc : va_W} {post : Int32 → va_W → Prop} (hy : plainName y.cls = true) (hav : (lg_sl av).length ≤ maxL)
    (body : ∀ (p : Program) (e : Env) (s : State) (m : MethodId) (below : List Frame) (meth : Method) (c : Code) (A : Nat → Prop) (ls : Array Slot), Zx p s m av.toArray meth c bytes maxL ret y.cls A tys D → meth.name = y.name → va_P D vwCl wc s.heap → va_D A wc → lv_has ls maxL (lv_args 0 av) →
      W p l e (rmv k mc ms) s m av.toArray below meth c s.heap [] 0 0 (MQ below (va_Qi post (cB D tys A) A) av.toArray s mc ms A) (F0 m 0 ls [])) : Ci l D tys y bytes maxL ret k mc ms av wc post := by
  intro sz
  refine Met.ofW (cc := bytes) (maxL := maxL) (ret := ret) hy rfl ?_
  intro p e s m args below meth c s₁ B hml hv
  obtain ⟨rfl, hsz, hP, hK, hD0, hN⟩ := hv
  subst hsz
  have hts := atoms_spec (ws := bws y bytes maxL ret) B.pre
  have hown : s.vm.findClass y.cls = some m.cls := findClass_of_methodNamed B.named
  have hin : meth.name = y.name := (name_of_methodNamed B.named B.method).1
  have hl := lv_entry av (n := maxL) hav
  rw [lg_entry_eq]
  exact body p e s m below meth c _ _ ⟨B.exec, B.bytes, hml, hown, fun w h => hts w (List.mem_cons_of_mem _ h), hN, hK, fun q h => Or.inr h, B.notSynchronized, B.returns⟩ hin hP hD0.self hl
theorem Cv.of {l : Launch} {D : va_G} {tys : vw_Y} {y : MethodName} {bytes : ByteArray} {maxL : Nat} {k mc ms : Nat} {av : List Value} {wc : va_W} {post : va_W → Prop} (hy : plainName y.cls = true) (hav : (lg_sl av).length ≤ maxL)
    (body : ∀ (p : Program) (e : Env) (s : State) (m : MethodId) (below : List Frame) (meth : Method) (c : Code) (A : Nat → Prop) (ls : Array Slot), Zx p s m av.toArray meth c bytes maxL none y.cls A tys D → meth.name = y.name → va_P D vwCl wc s.heap → va_D A wc → lv_has ls maxL (lv_args 0 av) →
      W p l e (rmv k mc ms) s m av.toArray below meth c s.heap [] 0 0 (MQ below (va_Qv post (cB D tys A) A) av.toArray s mc ms A) (F0 m 0 ls [])) : Cv l D tys y bytes maxL k mc ms av wc post := by
  intro sz
  refine Met.ofW (cc := bytes) (maxL := maxL) (ret := none) hy rfl ?_
  intro p e s m args below meth c s₁ B hml hv
  obtain ⟨rfl, hsz, hP, hK, hD0, hN⟩ := hv
  subst hsz
  have hts := atoms_spec (ws := bws y bytes maxL none) B.pre
  have hown : s.vm.findClass y.cls = some m.cls := findClass_of_methodNamed B.named
  have hin : meth.name = y.name := (name_of_methodNamed B.named B.method).1
  have hl := lv_entry av (n := maxL) hav
  rw [lg_entry_eq]
  exact body p e s m below meth c _ _ ⟨B.exec, B.bytes, hml, hown, fun w h => hts w (List.mem_cons_of_mem _ h), hN, hK, fun q h => Or.inr h, B.notSynchronized, B.returns⟩ hin hP hD0.self hl
theorem va_P.sub2 {D : va_G} {cl : List vw_C} {ws wc : va_W} {H : Heap} (h : va_P D cl ws H) (is : List Nat) (hs : is.map (fun i => ws[i]?) = wc.map some) : va_P D cl wc H := fun k q hk => by
  obtain ⟨i, -, h2⟩ := va_in_of is hs hk
  exact h i q h2
section ZC
variable {p : Program} {l : Launch} {e : Env} {R : Room} {s : State} {m : MethodId} {args : Array Value} {below : List Frame} {meth : Method} {c : Code} {H : Heap} {locs : List Loc} {cells slots : Nat} {Q : State → Prop}
variable {cc : ByteArray} {pc nL : Nat} {rt : Option FieldType} {ls : Array Slot} {rest st0 : List Value} {D : va_G} {A : Nat → Prop} {tys : vw_Y} {ws wc wr : va_W} {own : String}
variable {y : MethodName} {bytes : ByteArray} {maxL k mc ms index b : Nat} {ret : Option FieldType} {As : List Value} {post : Int32 → va_W → Prop} {postv : va_W → Prop}
theorem raw_free (hD : va_D A wc) (hA : ∀ q, s.heap.size ≤ q → A q) (hS : va_S A s.heap H locs) : ∀ q, va_A wc H.size q → A q := by
  intro q h
  rcases h with ⟨k, e, h⟩ | h
  · exact hD.2 k (q, e) h
  · exact hA q (Nat.le_trans hS.1 h)
/-- invokevirtual, an int answer: what the callee's cells are behind it, and that all else is kept -/
theorem raw_Vi {ci q0 : Nat} {fs : List Value} {qc : vw_C} (Z : Zx p s m args meth c cc nL rt own A tys D) (hl : ls.size = nL) (hM : Ci l D tys y bytes maxL ret k mc ms (.ref b :: As) wc post) (g : GoodIn BW (wsV own index y.cls y (bws y bytes maxL ret)))
    (hd : y.cls ≠ "java/lang/invoke/MethodHandle" ∧ y.cls ≠ "java/lang/invoke/VarHandle" ∧ (parseMethodDescriptor y.desc).map (fun d => d.parameters.length) = some As.length) (hR : k + 1 ≤ R.frames ∧ 8 + (maxL + 11) + 100 * k ≤ R.locals)
    (hc : vwCl[ci]? = some qc) (hqc : qc.1 = y.cls) (he : wc[q0]? = some (b, .inr (ci, fs))) (hPc : va_P D vwCl wc H) (hDc : va_D A wc) (hS : va_S A s.heap H locs)
    (hst : st0 = As.reverse ++ .ref b :: rest) (hrm : (rest.map fun v => v.category).sum ≤ 8) (hdg : decode cc pc = .ok (.invokevirtual index, 3)) (hcs : cells + mc ≤ R.cells ∧ slots + ms ≤ R.slots)
    (kk : ∀ (r : Int32) (u : va_W) (H1 : Heap) (locs1 : List Loc), post r u → (∀ q : Nat, q < H.size → ¬ va_A wc H.size q → H1[q]? = H[q]?) → va_P D vwCl u H1 → va_D (va_A wc H.size) u → va_S A s.heap H1 locs1 → W p l e R s m args below meth c H1 locs1 (cells + mc) (slots + ms) Q (F0 m (pc + 3) ls (.int r :: rest))) :
    W p l e R s m args below meth c H locs cells slots Q (F0 m pc ls st0) := by
  obtain ⟨hx, hb, hml, hown, hw, hN, hK, hA, -, -⟩ := Z
  have hFc := raw_free hDc hA hS
  have hrec := va_recv hK hPc hc he
  rw [hqc] at hrec
  refine va_calli (va_runV (As := As) (rest := rest) ⟨hx, hb, hml, hown, hw⟩ (hM H.size) (cwV As.length hw g rfl rfl rfl ⟨rfl, hd⟩ hR) ⟨cPc_blind, hrec, fun U hU hW => ⟨rfl, by rw [hU], by rw [hU]; exact hPc, va_K.moved hW.alike hK, hDc.weaken (fun _ _ _ _ => trivial), hN.warm hW⟩⟩ rfl rfl hl hst (lv_room hrm) hdg hcs) hS (fun q _ h => hFc q h) hFc (fun r u t H1 locs1 ht hvm hw1 hB hz1 hk1 hS1 => ?_)
  obtain ⟨hP1, hD1⟩ := hB
  rw [ht] at hP1
  exact kk r u H1 locs1 hw1 hk1 hP1 hD1 hS1
theorem raw_Vv {ci q0 : Nat} {fs : List Value} {qc : vw_C} (Z : Zx p s m args meth c cc nL rt own A tys D) (hl : ls.size = nL) (hM : Cv l D tys y bytes maxL k mc ms (.ref b :: As) wc postv) (g : GoodIn BW (wsV own index y.cls y (bws y bytes maxL none)))
    (hd : y.cls ≠ "java/lang/invoke/MethodHandle" ∧ y.cls ≠ "java/lang/invoke/VarHandle" ∧ (parseMethodDescriptor y.desc).map (fun d => d.parameters.length) = some As.length) (hR : k + 1 ≤ R.frames ∧ 8 + (maxL + 11) + 100 * k ≤ R.locals)
    (hc : vwCl[ci]? = some qc) (hqc : qc.1 = y.cls) (he : wc[q0]? = some (b, .inr (ci, fs))) (hPc : va_P D vwCl wc H) (hDc : va_D A wc) (hS : va_S A s.heap H locs)
    (hst : st0 = As.reverse ++ .ref b :: rest) (hrm : (rest.map fun v => v.category).sum ≤ 8) (hdg : decode cc pc = .ok (.invokevirtual index, 3)) (hcs : cells + mc ≤ R.cells ∧ slots + ms ≤ R.slots)
    (kk : ∀ (u : va_W) (H1 : Heap) (locs1 : List Loc), postv u → (∀ q : Nat, q < H.size → ¬ va_A wc H.size q → H1[q]? = H[q]?) → va_P D vwCl u H1 → va_D (va_A wc H.size) u → va_S A s.heap H1 locs1 → W p l e R s m args below meth c H1 locs1 (cells + mc) (slots + ms) Q (F0 m (pc + 3) ls rest)) :
    W p l e R s m args below meth c H locs cells slots Q (F0 m pc ls st0) := by
  obtain ⟨hx, hb, hml, hown, hw, hN, hK, hA, -, -⟩ := Z
  have hFc := raw_free hDc hA hS
  have hrec := va_recv hK hPc hc he
  rw [hqc] at hrec
  refine va_callv (va_runV (As := As) (rest := rest) ⟨hx, hb, hml, hown, hw⟩ (hM H.size) (cwV As.length hw g rfl rfl rfl ⟨rfl, hd⟩ hR) ⟨cPc_blind, hrec, fun U hU hW => ⟨rfl, by rw [hU], by rw [hU]; exact hPc, va_K.moved hW.alike hK, hDc.weaken (fun _ _ _ _ => trivial), hN.warm hW⟩⟩ rfl rfl hl hst (lv_room hrm) hdg hcs) hS (fun q _ h => hFc q h) hFc (fun u t H1 locs1 ht hvm hw1 hB hz1 hk1 hS1 => ?_)
  obtain ⟨hP1, hD1⟩ := hB
  rw [ht] at hP1
  exact kk u H1 locs1 hw1 hk1 hP1 hD1 hS1
theorem raw_Si (Z : Zx p s m args meth c cc nL rt own A tys D) (hl : ls.size = nL) (hM : Ci l D tys y bytes maxL ret k mc ms As wc post) (g : GoodIn BW (va_wsS own index y (bws y bytes maxL ret)))
    (hd : y.cls ≠ "java/lang/invoke/MethodHandle" ∧ y.cls ≠ "java/lang/invoke/VarHandle" ∧ (parseMethodDescriptor y.desc).map (fun d => d.parameters.length) = some As.length) (hR : k + 1 ≤ R.frames ∧ 8 + (maxL + 11) + 100 * k ≤ R.locals)
    (hPc : va_P D vwCl wc H) (hDc : va_D A wc) (hS : va_S A s.heap H locs)
    (hst : st0 = As.reverse ++ rest) (hrm : (rest.map fun v => v.category).sum ≤ 8) (hdg : decode cc pc = .ok (.invokestatic index, 3)) (hcs : cells + mc ≤ R.cells ∧ slots + ms ≤ R.slots)
    (kk : ∀ (r : Int32) (u : va_W) (H1 : Heap) (locs1 : List Loc), post r u → (∀ q : Nat, q < H.size → ¬ va_A wc H.size q → H1[q]? = H[q]?) → va_P D vwCl u H1 → va_D (va_A wc H.size) u → va_S A s.heap H1 locs1 → W p l e R s m args below meth c H1 locs1 (cells + mc) (slots + ms) Q (F0 m (pc + 3) ls (.int r :: rest))) :
    W p l e R s m args below meth c H locs cells slots Q (F0 m pc ls st0) := by
  obtain ⟨hx, hb, hml, hown, hw, hN, hK, hA, -, -⟩ := Z
  have hFc := raw_free hDc hA hS
  refine va_calli (va_runS (As := As) (rest := rest) ⟨hx, hb, hml, hown, hw⟩ (hM H.size) (va_cwS As.length hw g rfl rfl rfl hd hR) ⟨cPc_blind, fun U hU hW => ⟨rfl, by rw [hU], by rw [hU]; exact hPc, va_K.moved hW.alike hK, hDc.weaken (fun _ _ _ _ => trivial), hN.warm hW⟩⟩ rfl rfl hl hst (lv_room hrm) hdg hcs) hS (fun q _ h => hFc q h) hFc (fun r u t H1 locs1 ht hvm hw1 hB hz1 hk1 hS1 => ?_)
  obtain ⟨hP1, hD1⟩ := hB
  rw [ht] at hP1
  exact kk r u H1 locs1 hw1 hk1 hP1 hD1 hS1
theorem raw_Sv (Z : Zx p s m args meth c cc nL rt own A tys D) (hl : ls.size = nL) (hM : Cv l D tys y bytes maxL k mc ms As wc postv) (g : GoodIn BW (va_wsS own index y (bws y bytes maxL none)))
    (hd : y.cls ≠ "java/lang/invoke/MethodHandle" ∧ y.cls ≠ "java/lang/invoke/VarHandle" ∧ (parseMethodDescriptor y.desc).map (fun d => d.parameters.length) = some As.length) (hR : k + 1 ≤ R.frames ∧ 8 + (maxL + 11) + 100 * k ≤ R.locals)
    (hPc : va_P D vwCl wc H) (hDc : va_D A wc) (hS : va_S A s.heap H locs)
    (hst : st0 = As.reverse ++ rest) (hrm : (rest.map fun v => v.category).sum ≤ 8) (hdg : decode cc pc = .ok (.invokestatic index, 3)) (hcs : cells + mc ≤ R.cells ∧ slots + ms ≤ R.slots)
    (kk : ∀ (u : va_W) (H1 : Heap) (locs1 : List Loc), postv u → (∀ q : Nat, q < H.size → ¬ va_A wc H.size q → H1[q]? = H[q]?) → va_P D vwCl u H1 → va_D (va_A wc H.size) u → va_S A s.heap H1 locs1 → W p l e R s m args below meth c H1 locs1 (cells + mc) (slots + ms) Q (F0 m (pc + 3) ls rest)) :
    W p l e R s m args below meth c H locs cells slots Q (F0 m pc ls st0) := by
  obtain ⟨hx, hb, hml, hown, hw, hN, hK, hA, -, -⟩ := Z
  have hFc := raw_free hDc hA hS
  refine va_callv (va_runS (As := As) (rest := rest) ⟨hx, hb, hml, hown, hw⟩ (hM H.size) (va_cwS As.length hw g rfl rfl rfl hd hR) ⟨cPc_blind, fun U hU hW => ⟨rfl, by rw [hU], by rw [hU]; exact hPc, va_K.moved hW.alike hK, hDc.weaken (fun _ _ _ _ => trivial), hN.warm hW⟩⟩ rfl rfl hl hst (lv_room hrm) hdg hcs) hS (fun q _ h => hFc q h) hFc (fun u t H1 locs1 ht hvm hw1 hB hz1 hk1 hS1 => ?_)
  obtain ⟨hP1, hD1⟩ := hB
  rw [ht] at hP1
  exact kk u H1 locs1 hw1 hk1 hP1 hD1 hS1
/-- a constructor, by a plain link -/
theorem raw_I (Z : Zx p s m args meth c cc nL rt own A tys D) (hl : ls.size = nL) (hM : Cv l D tys y bytes maxL k mc ms (.ref b :: As) wc postv) (h1 : Cond.methodLink own index y ∈ BW) (h2 : Cond.instanceMethod y ∈ BW) (h4 : Cond.initialized y.cls ∈ BW) (h5 : Cond.code y bytes maxL none ∈ BW) (hy : y.name = "<init>")
    (hd : y.cls ≠ "java/lang/invoke/MethodHandle" ∧ y.cls ≠ "java/lang/invoke/VarHandle" ∧ (parseMethodDescriptor y.desc).map (fun d => d.parameters.length) = some As.length) (hR : k + 1 ≤ R.frames ∧ 8 + (maxL + 11) + 100 * k ≤ R.locals)
    (hPc : va_P D vwCl wc H) (hDc : va_D A wc) (hS : va_S A s.heap H locs)
    (hst : st0 = As.reverse ++ .ref b :: rest) (hrm : (rest.map fun v => v.category).sum ≤ 8) (hdg : decode cc pc = .ok (.invokespecial index, 3)) (hcs : cells + mc ≤ R.cells ∧ slots + ms ≤ R.slots)
    (kk : ∀ (u : va_W) (H1 : Heap) (locs1 : List Loc), postv u → (∀ q : Nat, q < H.size → ¬ va_A wc H.size q → H1[q]? = H[q]?) → va_P D vwCl u H1 → va_D (va_A wc H.size) u → va_S A s.heap H1 locs1 → W p l e R s m args below meth c H1 locs1 (cells + mc) (slots + ms) Q (F0 m (pc + 3) ls rest)) :
    W p l e R s m args below meth c H locs cells slots Q (F0 m pc ls st0) := by
  obtain ⟨hx, hb, hml, hown, hw, hN, hK, hA, -, -⟩ := Z
  have hFc := raw_free hDc hA hS
  refine va_callv (va_runI (As := As) (rest := rest) ⟨hx, hb, hml, hown, hw⟩ (hM H.size) (cwI As.length hw (bws_good h5) rfl rfl rfl (hw _ h4) (hw _ h1) (hw _ h2) hy hd hR) ⟨cPc_blind, fun U hU hW => ⟨rfl, by rw [hU], by rw [hU]; exact hPc, va_K.moved hW.alike hK, hDc.weaken (fun _ _ _ _ => trivial), hN.warm hW⟩⟩ rfl rfl hl hst (lv_room hrm) hdg hcs) hS (fun q _ h => hFc q h) hFc (fun u t H1 locs1 ht hvm hw1 hB hz1 hk1 hS1 => ?_)
  obtain ⟨hP1, hD1⟩ := hB
  rw [ht] at hP1
  exact kk u H1 locs1 hw1 hk1 hP1 hD1 hS1
/-- a constructor of a nest mate that is private -/
theorem raw_IN (Z : Zx p s m args meth c cc nL rt own A tys D) (hl : ls.size = nL) (hM : Cv l D tys y bytes maxL k mc ms (.ref b :: As) wc postv) (h1 : (own, index, y) ∈ nwq) (h2 : Cond.instanceMethod y ∈ BW) (h4 : Cond.initialized y.cls ∈ BW) (h5 : Cond.code y bytes maxL none ∈ BW) (hy : y.name = "<init>")
    (hd : y.cls ≠ "java/lang/invoke/MethodHandle" ∧ y.cls ≠ "java/lang/invoke/VarHandle" ∧ (parseMethodDescriptor y.desc).map (fun d => d.parameters.length) = some As.length) (hR : k + 1 ≤ R.frames ∧ 8 + (maxL + 11) + 100 * k ≤ R.locals)
    (hPc : va_P D vwCl wc H) (hDc : va_D A wc) (hS : va_S A s.heap H locs)
    (hst : st0 = As.reverse ++ .ref b :: rest) (hrm : (rest.map fun v => v.category).sum ≤ 8) (hdg : decode cc pc = .ok (.invokespecial index, 3)) (hcs : cells + mc ≤ R.cells ∧ slots + ms ≤ R.slots)
    (kk : ∀ (u : va_W) (H1 : Heap) (locs1 : List Loc), postv u → (∀ q : Nat, q < H.size → ¬ va_A wc H.size q → H1[q]? = H[q]?) → va_P D vwCl u H1 → va_D (va_A wc H.size) u → va_S A s.heap H1 locs1 → W p l e R s m args below meth c H1 locs1 (cells + mc) (slots + ms) Q (F0 m (pc + 3) ls rest)) :
    W p l e R s m args below meth c H locs cells slots Q (F0 m pc ls st0) := by
  obtain ⟨hx, hb, hml, hown, hw, hN, hK, hA, -, -⟩ := Z
  have hFc := raw_free hDc hA hS
  refine va_callv (va_runIN (As := As) (rest := rest) ⟨hx, hb, hml, hown, hw⟩ (hM H.size) ⟨va_cnB As.length hw (bws_good h5) rfl rfl rfl (hN.1 _ h1) (hw _ h4) hd hR, hy, hw _ h2⟩ ⟨cPc_blind, fun U hU hW => ⟨rfl, by rw [hU], by rw [hU]; exact hPc, va_K.moved hW.alike hK, hDc.weaken (fun _ _ _ _ => trivial), hN.warm hW⟩⟩ rfl rfl hl hst (lv_room hrm) hdg hcs) hS (fun q _ h => hFc q h) hFc (fun u t H1 locs1 ht hvm hw1 hB hz1 hk1 hS1 => ?_)
  obtain ⟨hP1, hD1⟩ := hB
  rw [ht] at hP1
  exact kk u H1 locs1 hw1 hk1 hP1 hD1 hS1
/-- behind a call: the caller's other cells, and the callee's world -/
theorem z_join {u : va_W} {H1 : Heap} (Z : Zx p s m args meth c cc nL rt own A tys D) (hS : va_S A s.heap H locs) (hP : va_P D vwCl ws H) (hD : va_D A ws) (isC isR : List Nat) (hC : isC.map (fun i => ws[i]?) = wc.map some) (hnC : va_nd isC = true) (hRr : isR.map (fun i => ws[i]?) = wr.map some) (hn : va_nd isR = true) (hdis : ∀ i ∈ isR, i ∉ isC)
    (hk1 : ∀ q : Nat, q < H.size → ¬ va_A wc H.size q → H1[q]? = H[q]?) (hP1 : va_P D vwCl u H1) (hD1 : va_D (va_A wc H.size) u) : va_P D vwCl (wr ++ u) H1 ∧ va_D A (wr ++ u) :=
  va_join hP hD isC isR hC hRr hn hdis hk1 (raw_free (hD.sub isC hnC hC) Z.2.2.2.2.2.2.2.1 hS) hP1 hD1
/-- getfield -/
theorem z_get (Z : Zx p s m args meth c cc nL rt own A tys D) {C : String} {T : u_T} {N ci a : Nat} (hin : ∀ w ∈ u_ws C T N, w ∈ BW) (hP : va_P D vwCl ws H) (q0 : Nat) {fs : List Value} (he : ws[q0]? = some (a, .inr (ci, fs))) (hc : vwCl[ci]? = some (C, T, N)) (k : Nat) (hk : k < N) (hlink : Cond.fieldLink own index (T k).1 (T k).2.1 (T k).2.2.1 ∈ BW) {v : Value} (hv : fs[k]? = some v) (hdg : decode cc pc = .ok (.getfield index, 3))
    (kk : W p l e R s m args below meth c H locs cells slots Q (F0 m (pc + 3) ls (v :: rest))) : W p l e R s m args below meth c H locs cells slots Q (F0 m pc ls (.ref a :: rest)) :=
  va_get Z.1 Z.2.1 Z.2.2.2.2.1 hin Z.2.2.2.1 Z.2.2.2.2.2.2.1 hP q0 he hc k hk (Z.2.2.2.2.1 _ hlink) (fun _ h => h) hv hdg kk
/-- putfield -/
theorem z_put (Z : Zx p s m args meth c cc nL rt own A tys D) {C : String} {T : u_T} {N ci a : Nat} (hin : ∀ w ∈ u_ws C T N, w ∈ BW) (ty0 : Nat → FieldType) (hty : ∀ k, k < N → parseFieldDescriptor (T k).2.2.1 = some (ty0 k)) (hnm : ∀ a, a < N → ∀ b, b < N → a ≠ b → (T a).2.1 ≠ (T b).2.1) (hP : va_P D vwCl ws H) (hD : va_D A ws) (hS : va_S A s.heap H locs) (q0 : Nat) {fs : List Value} (he : ws[q0]? = some (a, .inr (ci, fs))) (hc : vwCl[ci]? = some (C, T, N)) (k : Nat) (hk : k < N) (hlink : Cond.fieldLink own index (T k).1 (T k).2.1 (T k).2.2.1 ∈ BW) (hfin : (T k).2.2.2 = false) {v : Value} (hn : narrow (ty0 k) v = v) (hfit : fits (ty0 k) v = true) (hl : k < fs.length) (hdg : decode cc pc = .ok (.putfield index, 3))
    (kk : ∀ (H1 : Heap) (locs1 : List Loc), va_P D vwCl (ws.set q0 (a, .inr (ci, fs.set k v))) H1 → va_D A (ws.set q0 (a, .inr (ci, fs.set k v))) → va_S A s.heap H1 locs1 → W p l e R s m args below meth c H1 locs1 cells slots Q (F0 m (pc + 3) ls rest)) : W p l e R s m args below meth c H locs cells slots Q (F0 m pc ls (v :: .ref a :: rest)) :=
  va_put Z.1 Z.2.1 Z.2.2.2.2.1 hin ty0 hty hnm Z.2.2.2.1 Z.2.2.2.2.2.2.1 hP hD hS q0 he hc k hk (Z.2.2.2.2.1 _ hlink) (fun _ h => h) hfin (hty k hk) hn hfit hl hdg kk
/-- putfield of a final field, in the constructor -/
theorem z_putF (Z : Zx p s m args meth c cc nL rt own A tys D) {C : String} {T : u_T} {N ci a : Nat} (hin : ∀ w ∈ u_ws C T N, w ∈ BW) (ty0 : Nat → FieldType) (hty : ∀ k, k < N → parseFieldDescriptor (T k).2.2.1 = some (ty0 k)) (hnm : ∀ a, a < N → ∀ b, b < N → a ≠ b → (T a).2.1 ≠ (T b).2.1) (hP : va_P D vwCl ws H) (hD : va_D A ws) (hS : va_S A s.heap H locs) (q0 : Nat) {fs : List Value} (he : ws[q0]? = some (a, .inr (ci, fs))) (hc : vwCl[ci]? = some (C, T, N)) (k : Nat) (hk : k < N) (hlink : Cond.fieldLink own index (T k).1 (T k).2.1 (T k).2.2.1 ∈ BW) (hfin : (T k).2.2.2 = true) (hin2 : meth.name = "<init>") (hdecl : (T k).1 = own) {v : Value} (hn : narrow (ty0 k) v = v) (hfit : fits (ty0 k) v = true) (hl : k < fs.length) (hdg : decode cc pc = .ok (.putfield index, 3))
    (kk : ∀ (H1 : Heap) (locs1 : List Loc), va_P D vwCl (ws.set q0 (a, .inr (ci, fs.set k v))) H1 → va_D A (ws.set q0 (a, .inr (ci, fs.set k v))) → va_S A s.heap H1 locs1 → W p l e R s m args below meth c H1 locs1 cells slots Q (F0 m (pc + 3) ls rest)) : W p l e R s m args below meth c H locs cells slots Q (F0 m pc ls (v :: .ref a :: rest)) :=
  va_putF Z.1 Z.2.1 Z.2.2.2.2.1 hin ty0 hty hnm Z.2.2.2.1 Z.2.2.2.2.2.2.1 hP hD hS q0 he hc k hk (Z.2.2.2.2.1 _ hlink) (fun _ h => h) hfin hin2 hdecl (hty k hk) hn hfit hl hdg kk
/-- iaload, iastore, newarray of ints -/
theorem z_iald (Z : Zx p s m args meth c cc nL rt own A tys D) (hP : va_P D vwCl ws H) (q0 t0 : Nat) {a : Nat} {cA : ClassId} {n : Nat} {f : Nat → Int32} (ha : ws[q0]? = some (a, .inl (cA, n, .inl f))) (ht : tys[t0]? = some (cA, .int)) {i : Int32} (hin : vp_in i n) (hdg : decode cc pc = .ok (.iaload, 1))
    (kk : W p l e R s m args below meth c H locs cells slots Q (F0 m (pc + 1) ls (.int (f i.toNatClampNeg) :: rest))) : W p l e R s m args below meth c H locs cells slots Q (F0 m pc ls (.int i :: .ref a :: rest)) :=
  va_iald Z.1 Z.2.1 Z.2.2.2.2.2.2.1 hP q0 t0 ha ht hin hdg kk
theorem z_iast (Z : Zx p s m args meth c cc nL rt own A tys D) (hP : va_P D vwCl ws H) (hD : va_D A ws) (hS : va_S A s.heap H locs) (q0 t0 : Nat) {a : Nat} {cA : ClassId} {n : Nat} {f : Nat → Int32} {x : Int32} (ha : ws[q0]? = some (a, .inl (cA, n, .inl f))) (ht : tys[t0]? = some (cA, .int)) {i : Int32} (hin : vp_in i n) (hdg : decode cc pc = .ok (.iastore, 1))
    (kk : ∀ (H1 : Heap) (locs1 : List Loc), va_P D vwCl (ws.set q0 (a, .inl (cA, n, .inl (upd f i.toNatClampNeg x)))) H1 → va_D A (ws.set q0 (a, .inl (cA, n, .inl (upd f i.toNatClampNeg x)))) → va_S A s.heap H1 locs1 → W p l e R s m args below meth c H1 locs1 cells slots Q (F0 m (pc + 1) ls rest)) : W p l e R s m args below meth c H locs cells slots Q (F0 m pc ls (.int x :: .int i :: .ref a :: rest)) :=
  va_iast Z.1 Z.2.1 Z.2.2.2.2.2.2.1 hP hD hS q0 t0 ha ht hin hdg kk
theorem z_newi (Z : Zx p s m args meth c cc nL rt own A tys D) (harr : Cond.arrayClass .int ∈ BW) (hP : va_P D vwCl ws H) (hD : va_D A ws) (hS : va_S A s.heap H locs) (t0 : Nat) {cI : ClassId} (ht : tys[t0]? = some (cI, .int)) {n : Int32} {N : Nat} (hn : ¬ n < 0) (hN : n.toNatClampNeg = N) (hby : N * componentBytes .int ≤ 536870912) (hc : cells + 1 ≤ R.cells) (hs : slots + N ≤ R.slots) (hdg : decode cc pc = .ok (.newarray .int, 2))
    (kk : ∀ (q : Nat) (H1 : Heap), va_P D vwCl (ws ++ [(q, .inl (cI, N, .inl (fun _ => 0)))]) H1 → va_D A (ws ++ [(q, .inl (cI, N, .inl (fun _ => 0)))]) → va_S A s.heap H1 locs → W p l e R s m args below meth c H1 locs (cells + 1) (slots + N) Q (F0 m (pc + 2) ls (.ref q :: rest))) : W p l e R s m args below meth c H locs cells slots Q (F0 m pc ls (.int n :: rest)) := by
  refine va_newa (atype := .int) (ty := .int) (a0 := (N, .inl (fun _ => 0))) Z.1 Z.2.1 (Z.2.2.2.2.1 _ harr) rfl Z.2.2.2.2.2.2.1 hP hD hS Z.2.2.2.2.2.2.2.1 (fun cA => rfl) hn hN hby hc hs hdg (fun q cA H1 hK1 hP1 hD1 hS1 => ?_)
  have h1 : s.vm.findClass ("[" ++ (FieldType.int).toString) = some cI := (Z.2.2.2.2.2.2.1.2 t0 _ ht).2
  have h2 : s.vm.findClass ("[" ++ (FieldType.int).toString) = some cA := (hK1.2 tys.length (cA, .int) (by simp)).2
  have e : cA = cI := Option.some.inj (h2.symm.trans h1)
  subst e
  exact kk q H1 hP1 hD1 hS1
/-- new -/
theorem z_new (Z : Zx p s m args meth c cc nL rt own A tys D) {C : String} {T : u_T} {N ci : Nat} (hin : ∀ w ∈ u_ws C T N, w ∈ BW) (ty0 : Nat → FieldType) (hty : ∀ k, k < N → parseFieldDescriptor (T k).2.2.1 = some (ty0 k)) (hcl : Cond.classLink own index C ∈ BW) (hinst : Cond.instantiable C N ∈ BW) (hini : Cond.initialized C ∈ BW) (hP : va_P D vwCl ws H) (hD : va_D A ws) (hS : va_S A s.heap H locs) (hc : vwCl[ci]? = some (C, T, N)) {fs : List Value} (hfs : (List.range N).map (fun j => defaultValue (ty0 j)) = (List.range N).map (vp_V fs)) (hcells : cells + 1 ≤ R.cells) (hslots : slots + N ≤ R.slots) (hdg : decode cc pc = .ok (.new index, 3))
    (kk : ∀ (q : Nat) (H1 : Heap), va_P D vwCl (ws ++ [(q, .inr (ci, fs))]) H1 → va_D A (ws ++ [(q, .inr (ci, fs))]) → va_S A s.heap H1 locs → W p l e R s m args below meth c H1 locs (cells + 1) (slots + N) Q (F0 m (pc + 3) ls (.ref q :: rest))) : W p l e R s m args below meth c H locs cells slots Q (F0 m pc ls rest) :=
  va_new Z.1 Z.2.1 Z.2.2.2.2.1 hin ty0 hty Z.2.2.2.1 (Z.2.2.2.2.1 _ hcl) (Z.2.2.2.2.1 _ hinst) (Z.2.2.2.2.1 _ hini) Z.2.2.2.2.2.2.1 hP hD hS Z.2.2.2.2.2.2.2.1 hc (fun j hj => (List.map_inj_left.mp hfs) j (List.mem_range.mpr hj)) hcells hslots hdg kk
/-- Object.<init> -/
theorem z_obj (Z : Zx p s m args meth c cc nL rt own A tys D) (hl : ls.size = nL) {a : Nat} (h1 : Cond.methodLink own index Lib.objectInit ∈ BW) (h2 : Cond.instanceMethod Lib.objectInit ∈ BW) (h3 : Cond.code Lib.objectInit ⟨#[0xb1]⟩ 1 none ∈ BW) (hdg : decode cc pc = .ok (.invokespecial index, 3)) (hf : 1 ≤ R.frames) (hlo : (rest.map fun v => v.category).sum + 12 ≤ R.locals)
    (kk : W p l e R s m args below meth c H locs cells slots Q (F0 m (pc + 3) ls rest)) : W p l e R s m args below meth c H locs cells slots Q (F0 m pc ls (.ref a :: rest)) :=
  W.objInit Z.1 Z.2.1 Z.2.2.2.1 (Z.2.2.2.2.1 _ h1) (Z.2.2.2.2.1 _ h2) (Z.2.2.2.2.1 _ h3) rfl (by rw [Z.2.2.1]; exact hl) rfl hdg hf (by show 2 * 0 + _ + 12 ≤ _; omega) kk
/-- the ends -/
theorem z_ret {ty : FieldType} {v : Int32} {u : va_W} (Z : Zx p s m args meth c cc nL (some ty) own A tys D) (hnar : narrow ty (.int v) = .int v) (hP : va_P D vwCl u H) (hD : va_D A u) (hS : va_S A s.heap H locs) (hpost : post v u) (hdg : decode cc pc = .ok (.ireturn, 1)) (hc : cells ≤ mc) (hs : slots ≤ ms) :
    W p l e R s m args below meth c H locs cells slots (MQ below (va_Qi post (cB D tys A) A) args s mc ms A) (F0 m pc ls [.int v]) := by
  refine W.widen hc hs ?_
  have hlocks := Z.2.2.2.2.2.2.2.2.1
  exact W.zret Z.1 Z.2.1 Z.2.2.2.2.2.2.2.2.2 hnar (fun t ht hW => ⟨⟨v, u, rfl, hpost, by rw [ht]; exact hP, hD⟩, hS.F ht⟩) hS.2.2 hdg hlocks
theorem z_vret {u : va_W} (Z : Zx p s m args meth c cc nL none own A tys D) (hP : va_P D vwCl u H) (hD : va_D A u) (hS : va_S A s.heap H locs) (hpost : postv u) (hdg : decode cc pc = .ok (.return_, 1)) (hc : cells ≤ mc) (hs : slots ≤ ms) :
    W p l e R s m args below meth c H locs cells slots (MQ below (va_Qv postv (cB D tys A) A) args s mc ms A) (F0 m pc ls []) := by
  refine W.widen hc hs ?_
  have hlocks := Z.2.2.2.2.2.2.2.2.1
  exact W.vret Z.1 Z.2.1 Z.2.2.2.2.2.2.2.2.2 (fun t ht hW => ⟨⟨u, rfl, hpost, by rw [ht]; exact hP, hD⟩, hS.F ht⟩) hS.2.2 hdg hlocks
end ZC
abbrev ty3 (cI cM cT : ClassId) : vw_Y := [(cI, .int), (cM, .object RX1), (cT, .object RX9)]
theorem vin {i : Int32} {n : Nat} (h : ¬ (i < 0 ∨ n ≤ i.toNatClampNeg)) : vp_in i n := h
theorem zlt (a b : Int32) : a < b ↔ a.toInt < b.toInt := Int32.lt_iff_toInt_lt
theorem zle (a b : Int32) : a ≤ b ↔ a.toInt ≤ b.toInt := Int32.le_iff_toInt_le
theorem zeq (a b : Int32) : a = b ↔ a.toInt = b.toInt := Int32.toInt_inj.symm
theorem zl_0 : (0 : Int32).toInt = 0 := by decide
theorem zl_1 : (1 : Int32).toInt = 1 := by decide
theorem zl_2 : (2 : Int32).toInt = 2 := by decide
theorem zl_3 : (3 : Int32).toInt = 3 := by decide
theorem zl_4 : (4 : Int32).toInt = 4 := by decide
theorem zl_5 : (5 : Int32).toInt = 5 := by decide
theorem zl_6 : (6 : Int32).toInt = 6 := by decide
theorem zl_7 : (7 : Int32).toInt = 7 := by decide
theorem zl_8 : (8 : Int32).toInt = 8 := by decide
theorem zl_9 : (9 : Int32).toInt = 9 := by decide
theorem zl_10 : (10 : Int32).toInt = 10 := by decide
theorem zl_11 : (11 : Int32).toInt = 11 := by decide
theorem zl_12 : (12 : Int32).toInt = 12 := by decide
theorem zl_13 : (13 : Int32).toInt = 13 := by decide
theorem zl_19 : (19 : Int32).toInt = 19 := by decide
theorem zl_20 : (20 : Int32).toInt = 20 := by decide
theorem zl_30 : (30 : Int32).toInt = 30 := by decide
theorem zl_64 : (64 : Int32).toInt = 64 := by decide
theorem zl_99 : (99 : Int32).toInt = 99 := by decide
theorem zl_100 : (100 : Int32).toInt = 100 := by decide
theorem zl_299 : (299 : Int32).toInt = 299 := by decide
theorem zl_300 : (300 : Int32).toInt = 300 := by decide
theorem zl_399 : (399 : Int32).toInt = 399 := by decide
theorem zl_999 : (999 : Int32).toInt = 999 := by decide
theorem zl_9999 : (9999 : Int32).toInt = 9999 := by decide
theorem zl_m1 : ((-1) : Int32).toInt = (-1) := by decide
theorem zl_m2 : ((-2) : Int32).toInt = (-2) := by decide
theorem zl_m3 : ((-3) : Int32).toInt = (-3) := by decide
theorem zl_32 : (32 : Int32).toInt = 32 := by decide
theorem zl_280 : (280 : Int32).toInt = 280 := by decide
theorem va_P_left {D : va_G} {cl : List vw_C} {a b : va_W} {H : Heap} (h : va_P D cl (a ++ b) H) : va_P D cl a H := fun k q hk => h k q (by rw [List.getElem?_append_left (List.getElem?_eq_some_iff.mp hk).1]; exact hk)
theorem va_D_left {A : Nat → Prop} {a b : va_W} (h : va_D A (a ++ b)) : va_D A a := ⟨fun i j x y hx hy hxy => h.1 i j x y (by rw [List.getElem?_append_left (List.getElem?_eq_some_iff.mp hx).1]; exact hx) (by rw [List.getElem?_append_left (List.getElem?_eq_some_iff.mp hy).1]; exact hy) hxy, fun k q hk => h.2 k q (by rw [List.getElem?_append_left (List.getElem?_eq_some_iff.mp hk).1]; exact hk)⟩
section ZT
variable {p : Program} {l : Launch} {e : Env} {R : Room} {s : State} {m : MethodId} {args : Array Value} {below : List Frame} {meth : Method} {c : Code} {H : Heap} {locs : List Loc} {cells slots : Nat} {Q : State → Prop} {pc : Nat} {ls : Array Slot} {rest : List Value}
theorem z_topi {x y : Int32} (h : x = y) (k : W p l e R s m args below meth c H locs cells slots Q (F0 m pc ls (.int y :: rest))) : W p l e R s m args below meth c H locs cells slots Q (F0 m pc ls (.int x :: rest)) := h ▸ k
end ZT
theorem i_X0 : ∀ w ∈ u_ws RX0 TX0 7, w ∈ BW := bw_in [344, 346, 348, 350, 352, 354, 356] (by decide +kernel) (by decide +kernel)
theorem i_X1 : ∀ w ∈ u_ws RX1 TX1 7, w ∈ BW := bw_in [196, 198, 200, 202, 204, 206, 208] (by decide +kernel) (by decide +kernel)
theorem i_X2 : ∀ w ∈ u_ws RX2 TX2 7, w ∈ BW := bw_in [431, 433, 435, 437, 439, 441, 443] (by decide +kernel) (by decide +kernel)
theorem i_X3 : ∀ w ∈ u_ws RX3 TX3 4, w ∈ BW := bw_in [143, 145, 147, 149] (by decide +kernel) (by decide +kernel)
theorem i_X4 : ∀ w ∈ u_ws RX4 TX4 3, w ∈ BW := bw_in [168, 170, 172] (by decide +kernel) (by decide +kernel)
theorem i_X5 : ∀ w ∈ u_ws RX5 TX5 3, w ∈ BW := bw_in [224, 226, 228] (by decide +kernel) (by decide +kernel)
theorem i_X6 : ∀ w ∈ u_ws RX6 TX6 5, w ∈ BW := bw_in [370, 372, 374, 376, 378] (by decide +kernel) (by decide +kernel)
theorem i_X7 : ∀ w ∈ u_ws RX7 TX7 6, w ∈ BW := bw_in [406, 408, 410, 412, 414, 416] (by decide +kernel) (by decide +kernel)
theorem i_X8 : ∀ w ∈ u_ws RX8 TX8 4, w ∈ BW := bw_in [459, 461, 463, 465] (by decide +kernel) (by decide +kernel)
theorem i_X9 : ∀ w ∈ u_ws RX9 TX9 7, w ∈ BW := bw_in [315, 317, 319, 321, 323, 325, 327] (by decide +kernel) (by decide +kernel)
theorem i_X10 : ∀ w ∈ u_ws RX10 TX10 13, w ∈ BW := bw_in [263, 265, 267, 269, 271, 273, 275, 277, 279, 281, 283, 285, 287] (by decide +kernel) (by decide +kernel)
theorem i_X11 : ∀ w ∈ u_ws RX11 TX11 7, w ∈ BW := bw_in [475, 477, 479, 481, 483, 485, 487] (by decide +kernel) (by decide +kernel)
theorem i_X12 : ∀ w ∈ u_ws RX12 TX12 36, w ∈ BW := bw_in [1053, 1055, 1057, 1059, 1061, 1063, 1065, 1067, 1069, 1071, 1073, 1075, 1077, 1079, 1081, 1083, 1085, 1087, 1089, 1091, 1093, 1095, 1097, 1099, 1101, 1103, 1105, 1107, 1109, 1111, 1113, 1115, 1117, 1119, 1121, 1123] (by decide +kernel) (by decide +kernel)
end
section
theorem dX11_isWithin_0 : decode cX11_isWithin 0 = .ok (.iload_n 0, 1) := by decide +kernel
theorem dX11_isWithin_1 : decode cX11_isWithin 1 = .ok (.iload_n 1, 1) := by decide +kernel
theorem dX11_isWithin_2 : decode cX11_isWithin 2 = .ok (.if_icmp .lt 12, 3) := by decide +kernel
theorem dX11_isWithin_5 : decode cX11_isWithin 5 = .ok (.iload_n 0, 1) := by decide +kernel
theorem dX11_isWithin_6 : decode cX11_isWithin 6 = .ok (.iload_n 2, 1) := by decide +kernel
theorem dX11_isWithin_7 : decode cX11_isWithin 7 = .ok (.if_icmp .gt 7, 3) := by decide +kernel
theorem dX11_isWithin_10 : decode cX11_isWithin 10 = .ok (.iconst 1, 1) := by decide +kernel
theorem dX11_isWithin_11 : decode cX11_isWithin 11 = .ok (.goto 4, 3) := by decide +kernel
theorem dX11_isWithin_14 : decode cX11_isWithin 14 = .ok (.iconst 0, 1) := by decide +kernel
theorem dX11_isWithin_15 : decode cX11_isWithin 15 = .ok (.ireturn, 1) := by decide +kernel
theorem dX11_isPlace_0 : decode cX11_isPlace 0 = .ok (.iload_n 0, 1) := by decide +kernel
theorem dX11_isPlace_1 : decode cX11_isPlace 1 = .ok (.ifCond .lt 14, 3) := by decide +kernel
theorem dX11_isPlace_4 : decode cX11_isPlace 4 = .ok (.iload_n 0, 1) := by decide +kernel
theorem dX11_isPlace_5 : decode cX11_isPlace 5 = .ok (.sipush 300, 3) := by decide +kernel
theorem dX11_isPlace_8 : decode cX11_isPlace 8 = .ok (.if_icmp .ge 7, 3) := by decide +kernel
theorem dX11_isPlace_11 : decode cX11_isPlace 11 = .ok (.iconst 1, 1) := by decide +kernel
theorem dX11_isPlace_12 : decode cX11_isPlace 12 = .ok (.goto 4, 3) := by decide +kernel
theorem dX11_isPlace_15 : decode cX11_isPlace 15 = .ok (.iconst 0, 1) := by decide +kernel
theorem dX11_isPlace_16 : decode cX11_isPlace 16 = .ok (.ireturn, 1) := by decide +kernel
theorem dX12_isIn_0 : decode cX12_isIn 0 = .ok (.iload_n 0, 1) := by decide +kernel
theorem dX12_isIn_1 : decode cX12_isIn 1 = .ok (.iload_n 1, 1) := by decide +kernel
theorem dX12_isIn_2 : decode cX12_isIn 2 = .ok (.if_icmp .lt 12, 3) := by decide +kernel
theorem dX12_isIn_5 : decode cX12_isIn 5 = .ok (.iload_n 0, 1) := by decide +kernel
theorem dX12_isIn_6 : decode cX12_isIn 6 = .ok (.iload_n 2, 1) := by decide +kernel
theorem dX12_isIn_7 : decode cX12_isIn 7 = .ok (.if_icmp .gt 7, 3) := by decide +kernel
theorem dX12_isIn_10 : decode cX12_isIn 10 = .ok (.iconst 1, 1) := by decide +kernel
theorem dX12_isIn_11 : decode cX12_isIn 11 = .ok (.goto 4, 3) := by decide +kernel
theorem dX12_isIn_14 : decode cX12_isIn 14 = .ok (.iconst 0, 1) := by decide +kernel
theorem dX12_isIn_15 : decode cX12_isIn 15 = .ok (.ireturn, 1) := by decide +kernel
set_option maxHeartbeats 4000000 in
set_option maxRecDepth 100000 in
theorem c_X11_isWithin (l : Launch) (D : va_G) (cI cM cT : ClassId) (a : Int32) (b : Int32) (d : Int32) : Ci l D (ty3 cI cM cT) yX11_isWithin cX11_isWithin 3 (some .boolean) 0 0 0 [.int a, .int b, .int d] ([]) (fun r u => r = (if b ≤ a ∧ a ≤ d then 1 else 0) ∧ u = []) := by
  refine Ci.of (by decide +kernel) (Nat.le_of_ble_eq_true rfl) ?_
  intro p e s m below meth c A ls Z hin hP hD hl
  have hx := Z.1
  have hb := Z.2.1
  have hS : va_S A s.heap s.heap [] := va_S.rf
  have hl : lv_has ls 3 [(0, .int a), (1, .int b), (2, .int d)] := hl
  skip
  refine lv_iload_n hx hb dX11_isWithin_0 rfl (lv_at hl 0 rfl) ?_
  refine lv_iload_n hx hb dX11_isWithin_1 rfl (lv_at hl 1 rfl) ?_
  refine lv_icmp_lt (tgt := 14) hx hb dX11_isWithin_2 (by decide) (fun c1 => ?_) (fun c1 => ?_)
  · refine lv_iconst (v := 0) hx hb dX11_isWithin_14 (by decide) ?_
    exact z_ret Z rfl hP hD hS (⟨(if_neg (by simp only [zlt, zle, zeq, zl_0, zl_1, zl_2, zl_3, zl_4, zl_5, zl_6, zl_7, zl_8, zl_9, zl_10, zl_11, zl_12, zl_13, zl_19, zl_20, zl_30, zl_64, zl_99, zl_100, zl_299, zl_300, zl_399, zl_999, zl_9999, zl_m1, zl_m2, zl_m3, zl_32, zl_280] at c1 ⊢; omega)).symm, rfl⟩) dX11_isWithin_15 (Nat.le_of_ble_eq_true rfl) (Nat.le_of_ble_eq_true rfl)
  · refine lv_iload_n hx hb dX11_isWithin_5 rfl (lv_at hl 0 rfl) ?_
    refine lv_iload_n hx hb dX11_isWithin_6 rfl (lv_at hl 2 rfl) ?_
    refine lv_icmp_gt (tgt := 14) hx hb dX11_isWithin_7 (by decide) (fun c2 => ?_) (fun c2 => ?_)
    · refine lv_iconst (v := 0) hx hb dX11_isWithin_14 (by decide) ?_
      exact z_ret Z rfl hP hD hS (⟨(if_neg (by simp only [zlt, zle, zeq, zl_0, zl_1, zl_2, zl_3, zl_4, zl_5, zl_6, zl_7, zl_8, zl_9, zl_10, zl_11, zl_12, zl_13, zl_19, zl_20, zl_30, zl_64, zl_99, zl_100, zl_299, zl_300, zl_399, zl_999, zl_9999, zl_m1, zl_m2, zl_m3, zl_32, zl_280] at c1 c2 ⊢; omega)).symm, rfl⟩) dX11_isWithin_15 (Nat.le_of_ble_eq_true rfl) (Nat.le_of_ble_eq_true rfl)
    · refine lv_iconst (v := 1) hx hb dX11_isWithin_10 (by decide) ?_
      refine lv_goto (tgt := 15) hx hb dX11_isWithin_11 (by decide) ?_
      exact z_ret Z rfl hP hD hS (⟨(if_pos (by simp only [zlt, zle, zeq, zl_0, zl_1, zl_2, zl_3, zl_4, zl_5, zl_6, zl_7, zl_8, zl_9, zl_10, zl_11, zl_12, zl_13, zl_19, zl_20, zl_30, zl_64, zl_99, zl_100, zl_299, zl_300, zl_399, zl_999, zl_9999, zl_m1, zl_m2, zl_m3, zl_32, zl_280] at c1 c2 ⊢; omega)).symm, rfl⟩) dX11_isWithin_15 (Nat.le_of_ble_eq_true rfl) (Nat.le_of_ble_eq_true rfl)
set_option maxHeartbeats 4000000 in
set_option maxRecDepth 100000 in
theorem c_X11_isPlace (l : Launch) (D : va_G) (cI cM cT : ClassId) (a : Int32) : Ci l D (ty3 cI cM cT) yX11_isPlace cX11_isPlace 1 (some .boolean) 0 0 0 [.int a] ([]) (fun r u => r = (if 0 ≤ a ∧ a < 300 then 1 else 0) ∧ u = []) := by
  refine Ci.of (by decide +kernel) (Nat.le_of_ble_eq_true rfl) ?_
  intro p e s m below meth c A ls Z hin hP hD hl
  have hx := Z.1
  have hb := Z.2.1
  have hS : va_S A s.heap s.heap [] := va_S.rf
  have hl : lv_has ls 1 [(0, .int a)] := hl
  skip
  refine lv_iload_n hx hb dX11_isPlace_0 rfl (lv_at hl 0 rfl) ?_
  refine lv_if_lt (tgt := 15) hx hb dX11_isPlace_1 (by decide) (fun c1 => ?_) (fun c1 => ?_)
  · refine lv_iconst (v := 0) hx hb dX11_isPlace_15 (by decide) ?_
    exact z_ret Z rfl hP hD hS (⟨(if_neg (by simp only [zlt, zle, zeq, zl_0, zl_1, zl_2, zl_3, zl_4, zl_5, zl_6, zl_7, zl_8, zl_9, zl_10, zl_11, zl_12, zl_13, zl_19, zl_20, zl_30, zl_64, zl_99, zl_100, zl_299, zl_300, zl_399, zl_999, zl_9999, zl_m1, zl_m2, zl_m3, zl_32, zl_280] at c1 ⊢; omega)).symm, rfl⟩) dX11_isPlace_16 (Nat.le_of_ble_eq_true rfl) (Nat.le_of_ble_eq_true rfl)
  · refine lv_iload_n hx hb dX11_isPlace_4 rfl (lv_at hl 0 rfl) ?_
    refine lv_sipush (v := 300) hx hb dX11_isPlace_5 (by decide) ?_
    refine lv_icmp_ge (tgt := 15) hx hb dX11_isPlace_8 (by decide) (fun c2 => ?_) (fun c2 => ?_)
    · refine lv_iconst (v := 0) hx hb dX11_isPlace_15 (by decide) ?_
      exact z_ret Z rfl hP hD hS (⟨(if_neg (by simp only [zlt, zle, zeq, zl_0, zl_1, zl_2, zl_3, zl_4, zl_5, zl_6, zl_7, zl_8, zl_9, zl_10, zl_11, zl_12, zl_13, zl_19, zl_20, zl_30, zl_64, zl_99, zl_100, zl_299, zl_300, zl_399, zl_999, zl_9999, zl_m1, zl_m2, zl_m3, zl_32, zl_280] at c1 c2 ⊢; omega)).symm, rfl⟩) dX11_isPlace_16 (Nat.le_of_ble_eq_true rfl) (Nat.le_of_ble_eq_true rfl)
    · refine lv_iconst (v := 1) hx hb dX11_isPlace_11 (by decide) ?_
      refine lv_goto (tgt := 16) hx hb dX11_isPlace_12 (by decide) ?_
      exact z_ret Z rfl hP hD hS (⟨(if_pos (by simp only [zlt, zle, zeq, zl_0, zl_1, zl_2, zl_3, zl_4, zl_5, zl_6, zl_7, zl_8, zl_9, zl_10, zl_11, zl_12, zl_13, zl_19, zl_20, zl_30, zl_64, zl_99, zl_100, zl_299, zl_300, zl_399, zl_999, zl_9999, zl_m1, zl_m2, zl_m3, zl_32, zl_280] at c1 c2 ⊢; omega)).symm, rfl⟩) dX11_isPlace_16 (Nat.le_of_ble_eq_true rfl) (Nat.le_of_ble_eq_true rfl)
set_option maxHeartbeats 4000000 in
set_option maxRecDepth 100000 in
theorem c_X12_isIn (l : Launch) (D : va_G) (cI cM cT : ClassId) (a : Int32) (b : Int32) (d : Int32) : Ci l D (ty3 cI cM cT) yX12_isIn cX12_isIn 3 (some .boolean) 0 0 0 [.int a, .int b, .int d] ([]) (fun r u => r = (if b ≤ a ∧ a ≤ d then 1 else 0) ∧ u = []) := by
  refine Ci.of (by decide +kernel) (Nat.le_of_ble_eq_true rfl) ?_
  intro p e s m below meth c A ls Z hin hP hD hl
  have hx := Z.1
  have hb := Z.2.1
  have hS : va_S A s.heap s.heap [] := va_S.rf
  have hl : lv_has ls 3 [(0, .int a), (1, .int b), (2, .int d)] := hl
  skip
  refine lv_iload_n hx hb dX12_isIn_0 rfl (lv_at hl 0 rfl) ?_
  refine lv_iload_n hx hb dX12_isIn_1 rfl (lv_at hl 1 rfl) ?_
  refine lv_icmp_lt (tgt := 14) hx hb dX12_isIn_2 (by decide) (fun c1 => ?_) (fun c1 => ?_)
  · refine lv_iconst (v := 0) hx hb dX12_isIn_14 (by decide) ?_
    exact z_ret Z rfl hP hD hS (⟨(if_neg (by simp only [zlt, zle, zeq, zl_0, zl_1, zl_2, zl_3, zl_4, zl_5, zl_6, zl_7, zl_8, zl_9, zl_10, zl_11, zl_12, zl_13, zl_19, zl_20, zl_30, zl_64, zl_99, zl_100, zl_299, zl_300, zl_399, zl_999, zl_9999, zl_m1, zl_m2, zl_m3, zl_32, zl_280] at c1 ⊢; omega)).symm, rfl⟩) dX12_isIn_15 (Nat.le_of_ble_eq_true rfl) (Nat.le_of_ble_eq_true rfl)
  · refine lv_iload_n hx hb dX12_isIn_5 rfl (lv_at hl 0 rfl) ?_
    refine lv_iload_n hx hb dX12_isIn_6 rfl (lv_at hl 2 rfl) ?_
    refine lv_icmp_gt (tgt := 14) hx hb dX12_isIn_7 (by decide) (fun c2 => ?_) (fun c2 => ?_)
    · refine lv_iconst (v := 0) hx hb dX12_isIn_14 (by decide) ?_
      exact z_ret Z rfl hP hD hS (⟨(if_neg (by simp only [zlt, zle, zeq, zl_0, zl_1, zl_2, zl_3, zl_4, zl_5, zl_6, zl_7, zl_8, zl_9, zl_10, zl_11, zl_12, zl_13, zl_19, zl_20, zl_30, zl_64, zl_99, zl_100, zl_299, zl_300, zl_399, zl_999, zl_9999, zl_m1, zl_m2, zl_m3, zl_32, zl_280] at c1 c2 ⊢; omega)).symm, rfl⟩) dX12_isIn_15 (Nat.le_of_ble_eq_true rfl) (Nat.le_of_ble_eq_true rfl)
    · refine lv_iconst (v := 1) hx hb dX12_isIn_10 (by decide) ?_
      refine lv_goto (tgt := 15) hx hb dX12_isIn_11 (by decide) ?_
      exact z_ret Z rfl hP hD hS (⟨(if_pos (by simp only [zlt, zle, zeq, zl_0, zl_1, zl_2, zl_3, zl_4, zl_5, zl_6, zl_7, zl_8, zl_9, zl_10, zl_11, zl_12, zl_13, zl_19, zl_20, zl_30, zl_64, zl_99, zl_100, zl_299, zl_300, zl_399, zl_999, zl_9999, zl_m1, zl_m2, zl_m3, zl_32, zl_280] at c1 c2 ⊢; omega)).symm, rfl⟩) dX12_isIn_15 (Nat.le_of_ble_eq_true rfl) (Nat.le_of_ble_eq_true rfl)
end
