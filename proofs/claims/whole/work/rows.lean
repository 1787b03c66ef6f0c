section
-- ===== PART A: goes FIRST, ahead of the names: the tables' words, and 'selects' of the private methods out of them =====
/-- a private method of a class that the tables say can be made, by its rows of tables_1 -/
def lw_okq (q : MethodName × Nat) : Prop := (q.1.cls ≠ "java/lang/invoke/MethodHandle" ∧ q.1.cls ≠ "java/lang/invoke/VarHandle") ∧ Cond.instantiable q.1.cls q.2 ∈ tables_1 ∧ Cond.privateMethod q.1 ∈ tables_1 ∧ Cond.instanceMethod q.1 ∈ tables_1
theorem lw_p0 : lw_okq (⟨"SpoonScales", "forgetSought", "()V"⟩, 10) := ⟨⟨by decide +kernel, by decide +kernel⟩, List.mem_of_getElem? (i := 18) (by decide +kernel), List.mem_of_getElem? (i := 362) (by decide +kernel), List.mem_of_getElem? (i := 363) (by decide +kernel)⟩
theorem lw_p1 : lw_okq (⟨"SpoonScales", "isEater", "(I)Z"⟩, 10) := ⟨⟨by decide +kernel, by decide +kernel⟩, List.mem_of_getElem? (i := 18) (by decide +kernel), List.mem_of_getElem? (i := 378) (by decide +kernel), List.mem_of_getElem? (i := 379) (by decide +kernel)⟩
theorem lw_p2 : lw_okq (⟨"SpoonScales$Bench", "ruling", "()LSpoonScales$Law;"⟩, 4) := ⟨⟨by decide +kernel, by decide +kernel⟩, List.mem_of_getElem? (i := 32) (by decide +kernel), List.mem_of_getElem? (i := 405) (by decide +kernel), List.mem_of_getElem? (i := 406) (by decide +kernel)⟩
theorem lw_p3 : lw_okq (⟨"SpoonScales$Bench", "nameEater", "(LSpoonScales$Scene;I)V"⟩, 4) := ⟨⟨by decide +kernel, by decide +kernel⟩, List.mem_of_getElem? (i := 32) (by decide +kernel), List.mem_of_getElem? (i := 413) (by decide +kernel), List.mem_of_getElem? (i := 414) (by decide +kernel)⟩
theorem lw_p4 : lw_okq (⟨"SpoonScales$Bench", "reckon", "(LSpoonScales$Law;I)I"⟩, 4) := ⟨⟨by decide +kernel, by decide +kernel⟩, List.mem_of_getElem? (i := 32) (by decide +kernel), List.mem_of_getElem? (i := 417) (by decide +kernel), List.mem_of_getElem? (i := 418) (by decide +kernel)⟩
theorem lw_p5 : lw_okq (⟨"SpoonScales$Bench", "biteOf", "(LSpoonScales$Scene;II)I"⟩, 4) := ⟨⟨by decide +kernel, by decide +kernel⟩, List.mem_of_getElem? (i := 32) (by decide +kernel), List.mem_of_getElem? (i := 437) (by decide +kernel), List.mem_of_getElem? (i := 438) (by decide +kernel)⟩
theorem lw_p6 : lw_okq (⟨"SpoonScales", "putBytes", "(I)V"⟩, 10) := ⟨⟨by decide +kernel, by decide +kernel⟩, List.mem_of_getElem? (i := 18) (by decide +kernel), List.mem_of_getElem? (i := 478) (by decide +kernel), List.mem_of_getElem? (i := 479) (by decide +kernel)⟩
theorem lw_p7 : lw_okq (⟨"SpoonScales$Reader", "advance", "()V"⟩, 15) := ⟨⟨by decide +kernel, by decide +kernel⟩, List.mem_of_getElem? (i := 266) (by decide +kernel), List.mem_of_getElem? (i := 496) (by decide +kernel), List.mem_of_getElem? (i := 497) (by decide +kernel)⟩
theorem lw_p8 : lw_okq (⟨"SpoonScales$Reader", "wordAt", "(II)I"⟩, 15) := ⟨⟨by decide +kernel, by decide +kernel⟩, List.mem_of_getElem? (i := 266) (by decide +kernel), List.mem_of_getElem? (i := 503) (by decide +kernel), List.mem_of_getElem? (i := 504) (by decide +kernel)⟩
theorem lw_p9 : lw_okq (⟨"SpoonScales$Reader", "readNumber", "()V"⟩, 15) := ⟨⟨by decide +kernel, by decide +kernel⟩, List.mem_of_getElem? (i := 266) (by decide +kernel), List.mem_of_getElem? (i := 559) (by decide +kernel), List.mem_of_getElem? (i := 560) (by decide +kernel)⟩
theorem lw_p10 : lw_okq (⟨"SpoonScales$Reader", "readSign", "()V"⟩, 15) := ⟨⟨by decide +kernel, by decide +kernel⟩, List.mem_of_getElem? (i := 266) (by decide +kernel), List.mem_of_getElem? (i := 563) (by decide +kernel), List.mem_of_getElem? (i := 564) (by decide +kernel)⟩
theorem lw_p11 : lw_okq (⟨"SpoonScales$Reader", "readClause", "(I)V"⟩, 15) := ⟨⟨by decide +kernel, by decide +kernel⟩, List.mem_of_getElem? (i := 266) (by decide +kernel), List.mem_of_getElem? (i := 623) (by decide +kernel), List.mem_of_getElem? (i := 624) (by decide +kernel)⟩
theorem lw_p12 : lw_okq (⟨"SpoonScales$Reader", "fail", "(I)V"⟩, 15) := ⟨⟨by decide +kernel, by decide +kernel⟩, List.mem_of_getElem? (i := 266) (by decide +kernel), List.mem_of_getElem? (i := 627) (by decide +kernel), List.mem_of_getElem? (i := 628) (by decide +kernel)⟩
theorem lw_p13 : lw_okq (⟨"SpoonScales$Reader", "readLaw", "(I)V"⟩, 15) := ⟨⟨by decide +kernel, by decide +kernel⟩, List.mem_of_getElem? (i := 266) (by decide +kernel), List.mem_of_getElem? (i := 632) (by decide +kernel), List.mem_of_getElem? (i := 633) (by decide +kernel)⟩
theorem lw_p14 : lw_okq (⟨"SpoonScales$Reader", "readOne", "(I)V"⟩, 15) := ⟨⟨by decide +kernel, by decide +kernel⟩, List.mem_of_getElem? (i := 266) (by decide +kernel), List.mem_of_getElem? (i := 636) (by decide +kernel), List.mem_of_getElem? (i := 637) (by decide +kernel)⟩
theorem lw_p15 : lw_okq (⟨"SpoonScales$Reader", "openUp", "(I)V"⟩, 15) := ⟨⟨by decide +kernel, by decide +kernel⟩, List.mem_of_getElem? (i := 266) (by decide +kernel), List.mem_of_getElem? (i := 646) (by decide +kernel), List.mem_of_getElem? (i := 647) (by decide +kernel)⟩
def lw_privs_1 : List (MethodName × Nat) := [(⟨"SpoonScales", "forgetSought", "()V"⟩, 10), (⟨"SpoonScales", "isEater", "(I)Z"⟩, 10), (⟨"SpoonScales$Bench", "ruling", "()LSpoonScales$Law;"⟩, 4), (⟨"SpoonScales$Bench", "nameEater", "(LSpoonScales$Scene;I)V"⟩, 4), (⟨"SpoonScales$Bench", "reckon", "(LSpoonScales$Law;I)I"⟩, 4), (⟨"SpoonScales$Bench", "biteOf", "(LSpoonScales$Scene;II)I"⟩, 4), (⟨"SpoonScales", "putBytes", "(I)V"⟩, 10), (⟨"SpoonScales$Reader", "advance", "()V"⟩, 15), (⟨"SpoonScales$Reader", "wordAt", "(II)I"⟩, 15), (⟨"SpoonScales$Reader", "readNumber", "()V"⟩, 15), (⟨"SpoonScales$Reader", "readSign", "()V"⟩, 15), (⟨"SpoonScales$Reader", "readClause", "(I)V"⟩, 15), (⟨"SpoonScales$Reader", "fail", "(I)V"⟩, 15), (⟨"SpoonScales$Reader", "readLaw", "(I)V"⟩, 15), (⟨"SpoonScales$Reader", "readOne", "(I)V"⟩, 15), (⟨"SpoonScales$Reader", "openUp", "(I)V"⟩, 15)]
theorem lw_r1 : ∀ q ∈ lw_privs_1, lw_okq q := List.forall_mem_cons.mpr ⟨lw_p0, List.forall_mem_cons.mpr ⟨lw_p1, List.forall_mem_cons.mpr ⟨lw_p2, List.forall_mem_cons.mpr ⟨lw_p3, List.forall_mem_cons.mpr ⟨lw_p4, List.forall_mem_cons.mpr ⟨lw_p5, List.forall_mem_cons.mpr ⟨lw_p6, List.forall_mem_cons.mpr ⟨lw_p7, List.forall_mem_cons.mpr ⟨lw_p8, List.forall_mem_cons.mpr ⟨lw_p9, List.forall_mem_cons.mpr ⟨lw_p10, List.forall_mem_cons.mpr ⟨lw_p11, List.forall_mem_cons.mpr ⟨lw_p12, List.forall_mem_cons.mpr ⟨lw_p13, List.forall_mem_cons.mpr ⟨lw_p14, List.forall_mem_cons.mpr ⟨lw_p15, fun _ h => absurd h List.not_mem_nil⟩⟩⟩⟩⟩⟩⟩⟩⟩⟩⟩⟩⟩⟩⟩⟩
theorem lw_p16 : lw_okq (⟨"SpoonScales$Reader", "putWaiting", "(I)V"⟩, 15) := ⟨⟨by decide +kernel, by decide +kernel⟩, List.mem_of_getElem? (i := 266) (by decide +kernel), List.mem_of_getElem? (i := 650) (by decide +kernel), List.mem_of_getElem? (i := 651) (by decide +kernel)⟩
theorem lw_p17 : lw_okq (⟨"SpoonScales$Reader", "isAheadOfAsk", "()Z"⟩, 15) := ⟨⟨by decide +kernel, by decide +kernel⟩, List.mem_of_getElem? (i := 266) (by decide +kernel), List.mem_of_getElem? (i := 654) (by decide +kernel), List.mem_of_getElem? (i := 655) (by decide +kernel)⟩
theorem lw_p18 : lw_okq (⟨"SpoonScales$Reader", "readBetween", "(I)V"⟩, 15) := ⟨⟨by decide +kernel, by decide +kernel⟩, List.mem_of_getElem? (i := 266) (by decide +kernel), List.mem_of_getElem? (i := 658) (by decide +kernel), List.mem_of_getElem? (i := 659) (by decide +kernel)⟩
theorem lw_p19 : lw_okq (⟨"SpoonScales$Reader", "hold", "()V"⟩, 15) := ⟨⟨by decide +kernel, by decide +kernel⟩, List.mem_of_getElem? (i := 266) (by decide +kernel), List.mem_of_getElem? (i := 662) (by decide +kernel), List.mem_of_getElem? (i := 663) (by decide +kernel)⟩
theorem lw_p20 : lw_okq (⟨"SpoonScales$Reader", "release", "(I)V"⟩, 15) := ⟨⟨by decide +kernel, by decide +kernel⟩, List.mem_of_getElem? (i := 266) (by decide +kernel), List.mem_of_getElem? (i := 669) (by decide +kernel), List.mem_of_getElem? (i := 670) (by decide +kernel)⟩
theorem lw_p21 : lw_okq (⟨"SpoonScales$Reader", "dropWaiting", "()V"⟩, 15) := ⟨⟨by decide +kernel, by decide +kernel⟩, List.mem_of_getElem? (i := 266) (by decide +kernel), List.mem_of_getElem? (i := 673) (by decide +kernel), List.mem_of_getElem? (i := 674) (by decide +kernel)⟩
theorem lw_p22 : lw_okq (⟨"SpoonScales$Reader", "readDeed", "(II)V"⟩, 15) := ⟨⟨by decide +kernel, by decide +kernel⟩, List.mem_of_getElem? (i := 266) (by decide +kernel), List.mem_of_getElem? (i := 680) (by decide +kernel), List.mem_of_getElem? (i := 681) (by decide +kernel)⟩
theorem lw_p23 : lw_okq (⟨"SpoonScales$Reader", "readNumberOf", "(II)I"⟩, 15) := ⟨⟨by decide +kernel, by decide +kernel⟩, List.mem_of_getElem? (i := 266) (by decide +kernel), List.mem_of_getElem? (i := 684) (by decide +kernel), List.mem_of_getElem? (i := 685) (by decide +kernel)⟩
theorem lw_p24 : lw_okq (⟨"SpoonScales$Reader", "expect", "(I)V"⟩, 15) := ⟨⟨by decide +kernel, by decide +kernel⟩, List.mem_of_getElem? (i := 266) (by decide +kernel), List.mem_of_getElem? (i := 688) (by decide +kernel), List.mem_of_getElem? (i := 689) (by decide +kernel)⟩
theorem lw_p25 : lw_okq (⟨"SpoonScales", "isText", "(I)Z"⟩, 10) := ⟨⟨by decide +kernel, by decide +kernel⟩, List.mem_of_getElem? (i := 18) (by decide +kernel), List.mem_of_getElem? (i := 701) (by decide +kernel), List.mem_of_getElem? (i := 702) (by decide +kernel)⟩
theorem lw_p26 : lw_okq (⟨"SpoonScales", "playClause", "(LSpoonScales$Law;I)Z"⟩, 10) := ⟨⟨by decide +kernel, by decide +kernel⟩, List.mem_of_getElem? (i := 18) (by decide +kernel), List.mem_of_getElem? (i := 709) (by decide +kernel), List.mem_of_getElem? (i := 710) (by decide +kernel)⟩
theorem lw_p27 : lw_okq (⟨"SpoonScales", "canBeCalled", "(I)Z"⟩, 10) := ⟨⟨by decide +kernel, by decide +kernel⟩, List.mem_of_getElem? (i := 18) (by decide +kernel), List.mem_of_getElem? (i := 739) (by decide +kernel), List.mem_of_getElem? (i := 740) (by decide +kernel)⟩
theorem lw_p28 : lw_okq (⟨"SpoonScales$Trial", "callRest", "(III)V"⟩, 12) := ⟨⟨by decide +kernel, by decide +kernel⟩, List.mem_of_getElem? (i := 26) (by decide +kernel), List.mem_of_getElem? (i := 754) (by decide +kernel), List.mem_of_getElem? (i := 755) (by decide +kernel)⟩
theorem lw_p29 : lw_okq (⟨"SpoonScales$Trial", "trySpoons", "(II)V"⟩, 12) := ⟨⟨by decide +kernel, by decide +kernel⟩, List.mem_of_getElem? (i := 26) (by decide +kernel), List.mem_of_getElem? (i := 778) (by decide +kernel), List.mem_of_getElem? (i := 779) (by decide +kernel)⟩
theorem lw_p30 : lw_okq (⟨"SpoonScales$Trial", "swaps", "(III)Z"⟩, 12) := ⟨⟨by decide +kernel, by decide +kernel⟩, List.mem_of_getElem? (i := 26) (by decide +kernel), List.mem_of_getElem? (i := 782) (by decide +kernel), List.mem_of_getElem? (i := 783) (by decide +kernel)⟩
theorem lw_p31 : lw_okq (⟨"SpoonScales$Trial", "keepFound", "(I)V"⟩, 12) := ⟨⟨by decide +kernel, by decide +kernel⟩, List.mem_of_getElem? (i := 26) (by decide +kernel), List.mem_of_getElem? (i := 786) (by decide +kernel), List.mem_of_getElem? (i := 787) (by decide +kernel)⟩
def lw_privs_2 : List (MethodName × Nat) := [(⟨"SpoonScales$Reader", "putWaiting", "(I)V"⟩, 15), (⟨"SpoonScales$Reader", "isAheadOfAsk", "()Z"⟩, 15), (⟨"SpoonScales$Reader", "readBetween", "(I)V"⟩, 15), (⟨"SpoonScales$Reader", "hold", "()V"⟩, 15), (⟨"SpoonScales$Reader", "release", "(I)V"⟩, 15), (⟨"SpoonScales$Reader", "dropWaiting", "()V"⟩, 15), (⟨"SpoonScales$Reader", "readDeed", "(II)V"⟩, 15), (⟨"SpoonScales$Reader", "readNumberOf", "(II)I"⟩, 15), (⟨"SpoonScales$Reader", "expect", "(I)V"⟩, 15), (⟨"SpoonScales", "isText", "(I)Z"⟩, 10), (⟨"SpoonScales", "playClause", "(LSpoonScales$Law;I)Z"⟩, 10), (⟨"SpoonScales", "canBeCalled", "(I)Z"⟩, 10), (⟨"SpoonScales$Trial", "callRest", "(III)V"⟩, 12), (⟨"SpoonScales$Trial", "trySpoons", "(II)V"⟩, 12), (⟨"SpoonScales$Trial", "swaps", "(III)Z"⟩, 12), (⟨"SpoonScales$Trial", "keepFound", "(I)V"⟩, 12)]
theorem lw_r2 : ∀ q ∈ lw_privs_2, lw_okq q := List.forall_mem_cons.mpr ⟨lw_p16, List.forall_mem_cons.mpr ⟨lw_p17, List.forall_mem_cons.mpr ⟨lw_p18, List.forall_mem_cons.mpr ⟨lw_p19, List.forall_mem_cons.mpr ⟨lw_p20, List.forall_mem_cons.mpr ⟨lw_p21, List.forall_mem_cons.mpr ⟨lw_p22, List.forall_mem_cons.mpr ⟨lw_p23, List.forall_mem_cons.mpr ⟨lw_p24, List.forall_mem_cons.mpr ⟨lw_p25, List.forall_mem_cons.mpr ⟨lw_p26, List.forall_mem_cons.mpr ⟨lw_p27, List.forall_mem_cons.mpr ⟨lw_p28, List.forall_mem_cons.mpr ⟨lw_p29, List.forall_mem_cons.mpr ⟨lw_p30, List.forall_mem_cons.mpr ⟨lw_p31, fun _ h => absurd h List.not_mem_nil⟩⟩⟩⟩⟩⟩⟩⟩⟩⟩⟩⟩⟩⟩⟩⟩
theorem lw_p32 : lw_okq (⟨"SpoonScales", "mostAlike", "(I)I"⟩, 10) := ⟨⟨by decide +kernel, by decide +kernel⟩, List.mem_of_getElem? (i := 18) (by decide +kernel), List.mem_of_getElem? (i := 813) (by decide +kernel), List.mem_of_getElem? (i := 814) (by decide +kernel)⟩
theorem lw_p33 : lw_okq (⟨"SpoonScales", "priceOf", "(I)I"⟩, 10) := ⟨⟨by decide +kernel, by decide +kernel⟩, List.mem_of_getElem? (i := 18) (by decide +kernel), List.mem_of_getElem? (i := 822) (by decide +kernel), List.mem_of_getElem? (i := 823) (by decide +kernel)⟩
theorem lw_p34 : lw_okq (⟨"SpoonScales", "roomOf", "(I)I"⟩, 10) := ⟨⟨by decide +kernel, by decide +kernel⟩, List.mem_of_getElem? (i := 18) (by decide +kernel), List.mem_of_getElem? (i := 826) (by decide +kernel), List.mem_of_getElem? (i := 827) (by decide +kernel)⟩
theorem lw_p35 : lw_okq (⟨"SpoonScales", "waysTo", "(II)I"⟩, 10) := ⟨⟨by decide +kernel, by decide +kernel⟩, List.mem_of_getElem? (i := 18) (by decide +kernel), List.mem_of_getElem? (i := 843) (by decide +kernel), List.mem_of_getElem? (i := 844) (by decide +kernel)⟩
theorem lw_p36 : lw_okq (⟨"SpoonScalesModel", "copies", "(Z)V"⟩, 48) := ⟨⟨by decide +kernel, by decide +kernel⟩, List.mem_of_getElem? (i := 891) (by decide +kernel), List.mem_of_getElem? (i := 897) (by decide +kernel), List.mem_of_getElem? (i := 898) (by decide +kernel)⟩
theorem lw_p37 : lw_okq (⟨"SpoonScalesModel", "put", "(I)V"⟩, 48) := ⟨⟨by decide +kernel, by decide +kernel⟩, List.mem_of_getElem? (i := 891) (by decide +kernel), List.mem_of_getElem? (i := 1073) (by decide +kernel), List.mem_of_getElem? (i := 1074) (by decide +kernel)⟩
theorem lw_p38 : lw_okq (⟨"SpoonScalesModel", "nextToken", "()V"⟩, 48) := ⟨⟨by decide +kernel, by decide +kernel⟩, List.mem_of_getElem? (i := 891) (by decide +kernel), List.mem_of_getElem? (i := 1085) (by decide +kernel), List.mem_of_getElem? (i := 1086) (by decide +kernel)⟩
theorem lw_p39 : lw_okq (⟨"SpoonScalesModel", "asks", "()V"⟩, 48) := ⟨⟨by decide +kernel, by decide +kernel⟩, List.mem_of_getElem? (i := 891) (by decide +kernel), List.mem_of_getElem? (i := 1121) (by decide +kernel), List.mem_of_getElem? (i := 1122) (by decide +kernel)⟩
theorem lw_p40 : lw_okq (⟨"SpoonScalesModel", "isWord", "(I)Z"⟩, 48) := ⟨⟨by decide +kernel, by decide +kernel⟩, List.mem_of_getElem? (i := 891) (by decide +kernel), List.mem_of_getElem? (i := 1125) (by decide +kernel), List.mem_of_getElem? (i := 1126) (by decide +kernel)⟩
theorem lw_p41 : lw_okq (⟨"SpoonScalesModel", "opensSign", "(I)Z"⟩, 48) := ⟨⟨by decide +kernel, by decide +kernel⟩, List.mem_of_getElem? (i := 891) (by decide +kernel), List.mem_of_getElem? (i := 1129) (by decide +kernel), List.mem_of_getElem? (i := 1130) (by decide +kernel)⟩
theorem lw_p42 : lw_okq (⟨"SpoonScalesModel", "errs", "(I)V"⟩, 48) := ⟨⟨by decide +kernel, by decide +kernel⟩, List.mem_of_getElem? (i := 891) (by decide +kernel), List.mem_of_getElem? (i := 1133) (by decide +kernel), List.mem_of_getElem? (i := 1134) (by decide +kernel)⟩
theorem lw_p43 : lw_okq (⟨"SpoonScalesModel", "opensFrame", "(I)V"⟩, 48) := ⟨⟨by decide +kernel, by decide +kernel⟩, List.mem_of_getElem? (i := 891) (by decide +kernel), List.mem_of_getElem? (i := 1137) (by decide +kernel), List.mem_of_getElem? (i := 1138) (by decide +kernel)⟩
theorem lw_p44 : lw_okq (⟨"SpoonScalesModel", "begins", "()V"⟩, 48) := ⟨⟨by decide +kernel, by decide +kernel⟩, List.mem_of_getElem? (i := 891) (by decide +kernel), List.mem_of_getElem? (i := 1141) (by decide +kernel), List.mem_of_getElem? (i := 1142) (by decide +kernel)⟩
theorem lw_p45 : lw_okq (⟨"SpoonScalesModel", "emits", "(II)V"⟩, 48) := ⟨⟨by decide +kernel, by decide +kernel⟩, List.mem_of_getElem? (i := 891) (by decide +kernel), List.mem_of_getElem? (i := 1145) (by decide +kernel), List.mem_of_getElem? (i := 1146) (by decide +kernel)⟩
theorem lw_p46 : lw_okq (⟨"SpoonScalesModel", "oneIsOver", "()V"⟩, 48) := ⟨⟨by decide +kernel, by decide +kernel⟩, List.mem_of_getElem? (i := 891) (by decide +kernel), List.mem_of_getElem? (i := 1149) (by decide +kernel), List.mem_of_getElem? (i := 1150) (by decide +kernel)⟩
theorem lw_p47 : lw_okq (⟨"SpoonScalesModel", "top", "()I"⟩, 48) := ⟨⟨by decide +kernel, by decide +kernel⟩, List.mem_of_getElem? (i := 891) (by decide +kernel), List.mem_of_getElem? (i := 1153) (by decide +kernel), List.mem_of_getElem? (i := 1154) (by decide +kernel)⟩
def lw_privs_3 : List (MethodName × Nat) := [(⟨"SpoonScales", "mostAlike", "(I)I"⟩, 10), (⟨"SpoonScales", "priceOf", "(I)I"⟩, 10), (⟨"SpoonScales", "roomOf", "(I)I"⟩, 10), (⟨"SpoonScales", "waysTo", "(II)I"⟩, 10), (⟨"SpoonScalesModel", "copies", "(Z)V"⟩, 48), (⟨"SpoonScalesModel", "put", "(I)V"⟩, 48), (⟨"SpoonScalesModel", "nextToken", "()V"⟩, 48), (⟨"SpoonScalesModel", "asks", "()V"⟩, 48), (⟨"SpoonScalesModel", "isWord", "(I)Z"⟩, 48), (⟨"SpoonScalesModel", "opensSign", "(I)Z"⟩, 48), (⟨"SpoonScalesModel", "errs", "(I)V"⟩, 48), (⟨"SpoonScalesModel", "opensFrame", "(I)V"⟩, 48), (⟨"SpoonScalesModel", "begins", "()V"⟩, 48), (⟨"SpoonScalesModel", "emits", "(II)V"⟩, 48), (⟨"SpoonScalesModel", "oneIsOver", "()V"⟩, 48), (⟨"SpoonScalesModel", "top", "()I"⟩, 48)]
theorem lw_r3 : ∀ q ∈ lw_privs_3, lw_okq q := List.forall_mem_cons.mpr ⟨lw_p32, List.forall_mem_cons.mpr ⟨lw_p33, List.forall_mem_cons.mpr ⟨lw_p34, List.forall_mem_cons.mpr ⟨lw_p35, List.forall_mem_cons.mpr ⟨lw_p36, List.forall_mem_cons.mpr ⟨lw_p37, List.forall_mem_cons.mpr ⟨lw_p38, List.forall_mem_cons.mpr ⟨lw_p39, List.forall_mem_cons.mpr ⟨lw_p40, List.forall_mem_cons.mpr ⟨lw_p41, List.forall_mem_cons.mpr ⟨lw_p42, List.forall_mem_cons.mpr ⟨lw_p43, List.forall_mem_cons.mpr ⟨lw_p44, List.forall_mem_cons.mpr ⟨lw_p45, List.forall_mem_cons.mpr ⟨lw_p46, List.forall_mem_cons.mpr ⟨lw_p47, fun _ h => absurd h List.not_mem_nil⟩⟩⟩⟩⟩⟩⟩⟩⟩⟩⟩⟩⟩⟩⟩⟩
theorem lw_p48 : lw_okq (⟨"SpoonScalesModel", "isSign", "(I)Z"⟩, 48) := ⟨⟨by decide +kernel, by decide +kernel⟩, List.mem_of_getElem? (i := 891) (by decide +kernel), List.mem_of_getElem? (i := 1160) (by decide +kernel), List.mem_of_getElem? (i := 1161) (by decide +kernel)⟩
theorem lw_p49 : lw_okq (⟨"SpoonScalesModel", "goesOn", "()V"⟩, 48) := ⟨⟨by decide +kernel, by decide +kernel⟩, List.mem_of_getElem? (i := 891) (by decide +kernel), List.mem_of_getElem? (i := 1164) (by decide +kernel), List.mem_of_getElem? (i := 1165) (by decide +kernel)⟩
theorem lw_p50 : lw_okq (⟨"SpoonScalesModel", "waitsFor", "(I)V"⟩, 48) := ⟨⟨by decide +kernel, by decide +kernel⟩, List.mem_of_getElem? (i := 891) (by decide +kernel), List.mem_of_getElem? (i := 1168) (by decide +kernel), List.mem_of_getElem? (i := 1169) (by decide +kernel)⟩
theorem lw_p51 : lw_okq (⟨"SpoonScalesModel", "works", "(I)V"⟩, 48) := ⟨⟨by decide +kernel, by decide +kernel⟩, List.mem_of_getElem? (i := 891) (by decide +kernel), List.mem_of_getElem? (i := 1175) (by decide +kernel), List.mem_of_getElem? (i := 1176) (by decide +kernel)⟩
theorem lw_p52 : lw_okq (⟨"SpoonScalesModel", "askIsOver", "()V"⟩, 48) := ⟨⟨by decide +kernel, by decide +kernel⟩, List.mem_of_getElem? (i := 891) (by decide +kernel), List.mem_of_getElem? (i := 1182) (by decide +kernel), List.mem_of_getElem? (i := 1183) (by decide +kernel)⟩
theorem lw_p53 : lw_okq (⟨"SpoonScalesModel", "clauseIsOver", "()V"⟩, 48) := ⟨⟨by decide +kernel, by decide +kernel⟩, List.mem_of_getElem? (i := 891) (by decide +kernel), List.mem_of_getElem? (i := 1186) (by decide +kernel), List.mem_of_getElem? (i := 1187) (by decide +kernel)⟩
theorem lw_p54 : lw_okq (⟨"SpoonScalesModel", "asksOn", "()V"⟩, 48) := ⟨⟨by decide +kernel, by decide +kernel⟩, List.mem_of_getElem? (i := 891) (by decide +kernel), List.mem_of_getElem? (i := 1190) (by decide +kernel), List.mem_of_getElem? (i := 1191) (by decide +kernel)⟩
theorem lw_p55 : lw_okq (⟨"SpoonScalesModel", "clause", "()V"⟩, 48) := ⟨⟨by decide +kernel, by decide +kernel⟩, List.mem_of_getElem? (i := 891) (by decide +kernel), List.mem_of_getElem? (i := 1194) (by decide +kernel), List.mem_of_getElem? (i := 1195) (by decide +kernel)⟩
theorem lw_p56 : lw_okq (⟨"SpoonScalesModel", "wasTold", "(I)Z"⟩, 48) := ⟨⟨by decide +kernel, by decide +kernel⟩, List.mem_of_getElem? (i := 891) (by decide +kernel), List.mem_of_getElem? (i := 1198) (by decide +kernel), List.mem_of_getElem? (i := 1199) (by decide +kernel)⟩
theorem lw_p57 : lw_okq (⟨"SpoonScalesModel", "number", "(II)I"⟩, 48) := ⟨⟨by decide +kernel, by decide +kernel⟩, List.mem_of_getElem? (i := 891) (by decide +kernel), List.mem_of_getElem? (i := 1202) (by decide +kernel), List.mem_of_getElem? (i := 1203) (by decide +kernel)⟩
theorem lw_p58 : lw_okq (⟨"SpoonScalesModel", "wants", "(I)V"⟩, 48) := ⟨⟨by decide +kernel, by decide +kernel⟩, List.mem_of_getElem? (i := 891) (by decide +kernel), List.mem_of_getElem? (i := 1206) (by decide +kernel), List.mem_of_getElem? (i := 1207) (by decide +kernel)⟩
theorem lw_p59 : lw_okq (⟨"SpoonScalesModel", "isEater", "(I)Z"⟩, 48) := ⟨⟨by decide +kernel, by decide +kernel⟩, List.mem_of_getElem? (i := 891) (by decide +kernel), List.mem_of_getElem? (i := 1222) (by decide +kernel), List.mem_of_getElem? (i := 1223) (by decide +kernel)⟩
theorem lw_p60 : lw_okq (⟨"SpoonScalesModel", "keepsStep", "()V"⟩, 48) := ⟨⟨by decide +kernel, by decide +kernel⟩, List.mem_of_getElem? (i := 891) (by decide +kernel), List.mem_of_getElem? (i := 1226) (by decide +kernel), List.mem_of_getElem? (i := 1227) (by decide +kernel)⟩
theorem lw_p61 : lw_okq (⟨"SpoonScalesModel", "laysWorld", "()V"⟩, 48) := ⟨⟨by decide +kernel, by decide +kernel⟩, List.mem_of_getElem? (i := 891) (by decide +kernel), List.mem_of_getElem? (i := 1234) (by decide +kernel), List.mem_of_getElem? (i := 1235) (by decide +kernel)⟩
theorem lw_p62 : lw_okq (⟨"SpoonScalesModel", "spoonOf", "(II)I"⟩, 48) := ⟨⟨by decide +kernel, by decide +kernel⟩, List.mem_of_getElem? (i := 891) (by decide +kernel), List.mem_of_getElem? (i := 1238) (by decide +kernel), List.mem_of_getElem? (i := 1239) (by decide +kernel)⟩
theorem lw_p63 : lw_okq (⟨"SpoonScalesModel", "stillHolds", "(I)I"⟩, 48) := ⟨⟨by decide +kernel, by decide +kernel⟩, List.mem_of_getElem? (i := 891) (by decide +kernel), List.mem_of_getElem? (i := 1242) (by decide +kernel), List.mem_of_getElem? (i := 1243) (by decide +kernel)⟩
def lw_privs_4 : List (MethodName × Nat) := [(⟨"SpoonScalesModel", "isSign", "(I)Z"⟩, 48), (⟨"SpoonScalesModel", "goesOn", "()V"⟩, 48), (⟨"SpoonScalesModel", "waitsFor", "(I)V"⟩, 48), (⟨"SpoonScalesModel", "works", "(I)V"⟩, 48), (⟨"SpoonScalesModel", "askIsOver", "()V"⟩, 48), (⟨"SpoonScalesModel", "clauseIsOver", "()V"⟩, 48), (⟨"SpoonScalesModel", "asksOn", "()V"⟩, 48), (⟨"SpoonScalesModel", "clause", "()V"⟩, 48), (⟨"SpoonScalesModel", "wasTold", "(I)Z"⟩, 48), (⟨"SpoonScalesModel", "number", "(II)I"⟩, 48), (⟨"SpoonScalesModel", "wants", "(I)V"⟩, 48), (⟨"SpoonScalesModel", "isEater", "(I)Z"⟩, 48), (⟨"SpoonScalesModel", "keepsStep", "()V"⟩, 48), (⟨"SpoonScalesModel", "laysWorld", "()V"⟩, 48), (⟨"SpoonScalesModel", "spoonOf", "(II)I"⟩, 48), (⟨"SpoonScalesModel", "stillHolds", "(I)I"⟩, 48)]
theorem lw_r4 : ∀ q ∈ lw_privs_4, lw_okq q := List.forall_mem_cons.mpr ⟨lw_p48, List.forall_mem_cons.mpr ⟨lw_p49, List.forall_mem_cons.mpr ⟨lw_p50, List.forall_mem_cons.mpr ⟨lw_p51, List.forall_mem_cons.mpr ⟨lw_p52, List.forall_mem_cons.mpr ⟨lw_p53, List.forall_mem_cons.mpr ⟨lw_p54, List.forall_mem_cons.mpr ⟨lw_p55, List.forall_mem_cons.mpr ⟨lw_p56, List.forall_mem_cons.mpr ⟨lw_p57, List.forall_mem_cons.mpr ⟨lw_p58, List.forall_mem_cons.mpr ⟨lw_p59, List.forall_mem_cons.mpr ⟨lw_p60, List.forall_mem_cons.mpr ⟨lw_p61, List.forall_mem_cons.mpr ⟨lw_p62, List.forall_mem_cons.mpr ⟨lw_p63, fun _ h => absurd h List.not_mem_nil⟩⟩⟩⟩⟩⟩⟩⟩⟩⟩⟩⟩⟩⟩⟩⟩
theorem lw_p64 : lw_okq (⟨"SpoonScalesModel", "ordersOf", "(I)I"⟩, 48) := ⟨⟨by decide +kernel, by decide +kernel⟩, List.mem_of_getElem? (i := 891) (by decide +kernel), List.mem_of_getElem? (i := 1246) (by decide +kernel), List.mem_of_getElem? (i := 1247) (by decide +kernel)⟩
theorem lw_p65 : lw_okq (⟨"SpoonScalesModel", "names", "(I)V"⟩, 48) := ⟨⟨by decide +kernel, by decide +kernel⟩, List.mem_of_getElem? (i := 891) (by decide +kernel), List.mem_of_getElem? (i := 1250) (by decide +kernel), List.mem_of_getElem? (i := 1251) (by decide +kernel)⟩
theorem lw_p66 : lw_okq (⟨"SpoonScalesModel", "saysOf", "(I)J"⟩, 48) := ⟨⟨by decide +kernel, by decide +kernel⟩, List.mem_of_getElem? (i := 891) (by decide +kernel), List.mem_of_getElem? (i := 1254) (by decide +kernel), List.mem_of_getElem? (i := 1255) (by decide +kernel)⟩
theorem lw_p67 : lw_okq (⟨"SpoonScalesModel", "isGuilty", "(I)Z"⟩, 48) := ⟨⟨by decide +kernel, by decide +kernel⟩, List.mem_of_getElem? (i := 891) (by decide +kernel), List.mem_of_getElem? (i := 1276) (by decide +kernel), List.mem_of_getElem? (i := 1277) (by decide +kernel)⟩
theorem lw_p68 : lw_okq (⟨"SpoonScalesModel", "tilt", "()I"⟩, 48) := ⟨⟨by decide +kernel, by decide +kernel⟩, List.mem_of_getElem? (i := 891) (by decide +kernel), List.mem_of_getElem? (i := 1280) (by decide +kernel), List.mem_of_getElem? (i := 1281) (by decide +kernel)⟩
theorem lw_p69 : lw_okq (⟨"SpoonScalesModel", "draw", "(I)I"⟩, 48) := ⟨⟨by decide +kernel, by decide +kernel⟩, List.mem_of_getElem? (i := 891) (by decide +kernel), List.mem_of_getElem? (i := 1288) (by decide +kernel), List.mem_of_getElem? (i := 1289) (by decide +kernel)⟩
theorem lw_p70 : lw_okq (⟨"SpoonScalesModel", "laysOrder", "(II)V"⟩, 48) := ⟨⟨by decide +kernel, by decide +kernel⟩, List.mem_of_getElem? (i := 891) (by decide +kernel), List.mem_of_getElem? (i := 1319) (by decide +kernel), List.mem_of_getElem? (i := 1320) (by decide +kernel)⟩
theorem lw_p71 : lw_okq (⟨"SpoonScalesModel", "eats", "(II)I"⟩, 48) := ⟨⟨by decide +kernel, by decide +kernel⟩, List.mem_of_getElem? (i := 891) (by decide +kernel), List.mem_of_getElem? (i := 1323) (by decide +kernel), List.mem_of_getElem? (i := 1324) (by decide +kernel)⟩
theorem lw_p72 : lw_okq (⟨"SpoonScalesModel", "acquits", "(II)Z"⟩, 48) := ⟨⟨by decide +kernel, by decide +kernel⟩, List.mem_of_getElem? (i := 891) (by decide +kernel), List.mem_of_getElem? (i := 1334) (by decide +kernel), List.mem_of_getElem? (i := 1335) (by decide +kernel)⟩
theorem lw_p73 : lw_okq (⟨"SpoonScalesModel", "toldMore", "(I)I"⟩, 48) := ⟨⟨by decide +kernel, by decide +kernel⟩, List.mem_of_getElem? (i := 891) (by decide +kernel), List.mem_of_getElem? (i := 1385) (by decide +kernel), List.mem_of_getElem? (i := 1386) (by decide +kernel)⟩
def lw_privs_5 : List (MethodName × Nat) := [(⟨"SpoonScalesModel", "ordersOf", "(I)I"⟩, 48), (⟨"SpoonScalesModel", "names", "(I)V"⟩, 48), (⟨"SpoonScalesModel", "saysOf", "(I)J"⟩, 48), (⟨"SpoonScalesModel", "isGuilty", "(I)Z"⟩, 48), (⟨"SpoonScalesModel", "tilt", "()I"⟩, 48), (⟨"SpoonScalesModel", "draw", "(I)I"⟩, 48), (⟨"SpoonScalesModel", "laysOrder", "(II)V"⟩, 48), (⟨"SpoonScalesModel", "eats", "(II)I"⟩, 48), (⟨"SpoonScalesModel", "acquits", "(II)Z"⟩, 48), (⟨"SpoonScalesModel", "toldMore", "(I)I"⟩, 48)]
theorem lw_r5 : ∀ q ∈ lw_privs_5, lw_okq q := List.forall_mem_cons.mpr ⟨lw_p64, List.forall_mem_cons.mpr ⟨lw_p65, List.forall_mem_cons.mpr ⟨lw_p66, List.forall_mem_cons.mpr ⟨lw_p67, List.forall_mem_cons.mpr ⟨lw_p68, List.forall_mem_cons.mpr ⟨lw_p69, List.forall_mem_cons.mpr ⟨lw_p70, List.forall_mem_cons.mpr ⟨lw_p71, List.forall_mem_cons.mpr ⟨lw_p72, List.forall_mem_cons.mpr ⟨lw_p73, fun _ h => absurd h List.not_mem_nil⟩⟩⟩⟩⟩⟩⟩⟩⟩⟩
def lw_privs : List (MethodName × Nat) := lw_privs_1 ++ (lw_privs_2 ++ (lw_privs_3 ++ (lw_privs_4 ++ (lw_privs_5))))
def lw_tbl : List Cond := k2_sels lw_privs ++ tables_1
theorem lw_privs_ok : ∀ q ∈ lw_privs, lw_okq q := by
  show ∀ q ∈ lw_privs_1 ++ (lw_privs_2 ++ (lw_privs_3 ++ (lw_privs_4 ++ (lw_privs_5)))), lw_okq q
  exact List.forall_mem_append.mpr ⟨lw_r1, List.forall_mem_append.mpr ⟨lw_r2, List.forall_mem_append.mpr ⟨lw_r3, List.forall_mem_append.mpr ⟨lw_r4, lw_r5⟩⟩⟩⟩
end
section
def RX0 : String := "SpoonScales$Bench"
def TX0 : u_T := fun k => match k with
  | 0 => ("SpoonScales$Bench", "court", "LSpoonScales$Court;", true)
  | 1 => ("SpoonScales$Bench", "laws", "[LSpoonScales$Law;", true)
  | 2 => ("SpoonScales$Bench", "values", "[I", true)
  | _ => ("SpoonScales$Bench", "stack", "[I", true)
def tyX0 : Nat → FieldType := fun k => match k with
  | 0 => .object "SpoonScales$Court"
  | 1 => .array (.object "SpoonScales$Law")
  | 2 => .array .int
  | _ => .array .int
abbrev wsX00 : List Cond := u_ws RX0 TX0 4
theorem nmX0 : ∀ a, a < 4 → ∀ b, b < 4 → a ≠ b → (TX0 a).2.1 ≠ (TX0 b).2.1 := by decide +kernel
theorem tyX0_ok : ∀ k, k < 4 → parseFieldDescriptor (TX0 k).2.2.1 = some (tyX0 k) := by decide +kernel
abbrev cX0_init : ByteArray := prog_2_method_1_code
def yX0_init : MethodName := ⟨RX0, "<init>", "()V"⟩
abbrev cX0_spoonful : ByteArray := prog_2_method_2_code
def yX0_spoonful : MethodName := ⟨RX0, "spoonful", "(LSpoonScales$Scene;II)I"⟩
abbrev cX0_roomIn : ByteArray := prog_2_method_3_code
def yX0_roomIn : MethodName := ⟨RX0, "roomIn", "(LSpoonScales$Scene;I)I"⟩
abbrev cX0_isGuilty : ByteArray := prog_2_method_4_code
def yX0_isGuilty : MethodName := ⟨RX0, "isGuilty", "(LSpoonScales$Scene;I)Z"⟩
abbrev cX0_biteOf : ByteArray := prog_2_method_5_code
def yX0_biteOf : MethodName := ⟨RX0, "biteOf", "(LSpoonScales$Scene;II)I"⟩
abbrev cX0_ruling : ByteArray := prog_2_method_6_code
def yX0_ruling : MethodName := ⟨RX0, "ruling", "()LSpoonScales$Law;"⟩
abbrev cX0_nameEater : ByteArray := prog_2_method_7_code
def yX0_nameEater : MethodName := ⟨RX0, "nameEater", "(LSpoonScales$Scene;I)V"⟩
abbrev cX0_reckon : ByteArray := prog_2_method_8_code
def yX0_reckon : MethodName := ⟨RX0, "reckon", "(LSpoonScales$Law;I)I"⟩
abbrev cX0_isValue : ByteArray := prog_2_method_9_code
def yX0_isValue : MethodName := ⟨RX0, "isValue", "(I)Z"⟩
abbrev cX0_combine : ByteArray := prog_2_method_10_code
def yX0_combine : MethodName := ⟨RX0, "combine", "(III)I"⟩
def RX1 : String := "SpoonScales$Court"
def TX1 : u_T := fun k => match k with
  | 0 => ("SpoonScales$Court", "now", "LSpoonScales$Scene;", true)
  | 1 => ("SpoonScales$Court", "stepScenes", "[LSpoonScales$Scene;", true)
  | 2 => ("SpoonScales$Court", "steps", "I", false)
  | 3 => ("SpoonScales$Court", "hunger", "[I", true)
  | 4 => ("SpoonScales$Court", "stomachs", "[I", true)
  | 5 => ("SpoonScales$Court", "price", "[I", true)
  | 6 => ("SpoonScales$Court", "eaters", "I", false)
  | 7 => ("SpoonScales$Court", "spoonRows", "[I", true)
  | 8 => ("SpoonScales$Court", "dentRows", "[I", true)
  | 9 => ("SpoonScales$Court", "texts", "I", false)
  | 10 => ("SpoonScales$Court", "ruling", "I", false)
  | 11 => ("SpoonScales$Court", "fitting", "I", false)
  | 12 => ("SpoonScales$Court", "tests", "I", false)
  | 13 => ("SpoonScales$Court", "toldGrains", "[I", true)
  | _ => ("SpoonScales$Court", "told", "I", false)
def tyX1 : Nat → FieldType := fun k => match k with
  | 0 => .object "SpoonScales$Scene"
  | 1 => .array (.object "SpoonScales$Scene")
  | 2 => .int
  | 3 => .array .int
  | 4 => .array .int
  | 5 => .array .int
  | 6 => .int
  | 7 => .array .int
  | 8 => .array .int
  | 9 => .int
  | 10 => .int
  | 11 => .int
  | 12 => .int
  | 13 => .array .int
  | _ => .int
abbrev wsX10 : List Cond := u_ws RX1 TX1 15
theorem nmX1 : ∀ a, a < 15 → ∀ b, b < 15 → a ≠ b → (TX1 a).2.1 ≠ (TX1 b).2.1 := by decide +kernel
theorem tyX1_ok : ∀ k, k < 15 → parseFieldDescriptor (TX1 k).2.2.1 = some (tyX1 k) := by decide +kernel
abbrev cX1_init : ByteArray := prog_3_method_1_code
def yX1_init : MethodName := ⟨RX1, "<init>", "()V"⟩
abbrev cX1_copyFrom : ByteArray := prog_3_method_2_code
def yX1_copyFrom : MethodName := ⟨RX1, "copyFrom", "(LSpoonScales$Court;)V"⟩
abbrev cX1_keepStep : ByteArray := prog_3_method_3_code
def yX1_keepStep : MethodName := ⟨RX1, "keepStep", "()V"⟩
abbrev cX1_writeSpoon : ByteArray := prog_3_method_4_code
def yX1_writeSpoon : MethodName := ⟨RX1, "writeSpoon", "(III)V"⟩
abbrev cX1_writeDent : ByteArray := prog_3_method_5_code
def yX1_writeDent : MethodName := ⟨RX1, "writeDent", "(II)V"⟩
abbrev cX1_contradict : ByteArray := prog_3_method_6_code
def yX1_contradict : MethodName := ⟨RX1, "contradict", "(II)Z"⟩
abbrev cX1_untold : ByteArray := prog_3_method_7_code
def yX1_untold : MethodName := ⟨RX1, "untold", "(I)I"⟩
abbrev cX1_forgetTold : ByteArray := prog_3_method_8_code
def yX1_forgetTold : MethodName := ⟨RX1, "forgetTold", "()V"⟩
def RX2 : String := "SpoonScales$Law"
def TX2 : u_T := fun k => match k with
  | 0 => ("SpoonScales$Law", "code", "[I", true)
  | 1 => ("SpoonScales$Law", "length", "I", false)
  | 2 => ("SpoonScales$Law", "from", "[I", true)
  | 3 => ("SpoonScales$Law", "till", "[I", true)
  | 4 => ("SpoonScales$Law", "verbs", "[I", true)
  | 5 => ("SpoonScales$Law", "firsts", "[I", true)
  | 6 => ("SpoonScales$Law", "seconds", "[I", true)
  | _ => ("SpoonScales$Law", "clauses", "I", false)
def tyX2 : Nat → FieldType := fun k => match k with
  | 0 => .array .int
  | 1 => .int
  | 2 => .array .int
  | 3 => .array .int
  | 4 => .array .int
  | 5 => .array .int
  | 6 => .array .int
  | _ => .int
abbrev wsX20 : List Cond := u_ws RX2 TX2 8
theorem nmX2 : ∀ a, a < 8 → ∀ b, b < 8 → a ≠ b → (TX2 a).2.1 ≠ (TX2 b).2.1 := by decide +kernel
theorem tyX2_ok : ∀ k, k < 8 → parseFieldDescriptor (TX2 k).2.2.1 = some (tyX2 k) := by decide +kernel
abbrev cX2_init : ByteArray := prog_4_method_1_code
def yX2_init : MethodName := ⟨RX2, "<init>", "()V"⟩
abbrev cX2_wipe : ByteArray := prog_4_method_2_code
def yX2_wipe : MethodName := ⟨RX2, "wipe", "()V"⟩
abbrev cX2_has : ByteArray := prog_4_method_3_code
def yX2_has : MethodName := ⟨RX2, "has", "(I)Z"⟩
abbrev cX2_emit : ByteArray := prog_4_method_4_code
def yX2_emit : MethodName := ⟨RX2, "emit", "(I)V"⟩
def RX3 : String := "SpoonScales$Reader"
def TX3 : u_T := fun k => match k with
  | 0 => ("SpoonScales$Reader", "tape", "[I", true)
  | 1 => ("SpoonScales$Reader", "tapeLength", "I", false)
  | 2 => ("SpoonScales$Reader", "at", "I", false)
  | 3 => ("SpoonScales$Reader", "token", "I", false)
  | 4 => ("SpoonScales$Reader", "place", "I", false)
  | 5 => ("SpoonScales$Reader", "value", "I", false)
  | 6 => ("SpoonScales$Reader", "law", "LSpoonScales$Law;", false)
  | 7 => ("SpoonScales$Reader", "fault", "I", false)
  | 8 => ("SpoonScales$Reader", "faultPlace", "I", false)
  | 9 => ("SpoonScales$Reader", "waiting", "[I", true)
  | 10 => ("SpoonScales$Reader", "waits", "I", false)
  | 11 => ("SpoonScales$Reader", "open", "I", false)
  | 12 => ("SpoonScales$Reader", "brackets", "I", false)
  | 13 => ("SpoonScales$Reader", "wantsOne", "Z", false)
  | _ => ("SpoonScales$Reader", "compared", "Z", false)
def tyX3 : Nat → FieldType := fun k => match k with
  | 0 => .array .int
  | 1 => .int
  | 2 => .int
  | 3 => .int
  | 4 => .int
  | 5 => .int
  | 6 => .object "SpoonScales$Law"
  | 7 => .int
  | 8 => .int
  | 9 => .array .int
  | 10 => .int
  | 11 => .int
  | 12 => .int
  | 13 => .boolean
  | _ => .boolean
abbrev wsX30 : List Cond := u_ws RX3 TX3 15
theorem nmX3 : ∀ a, a < 15 → ∀ b, b < 15 → a ≠ b → (TX3 a).2.1 ≠ (TX3 b).2.1 := by decide +kernel
theorem tyX3_ok : ∀ k, k < 15 → parseFieldDescriptor (TX3 k).2.2.1 = some (tyX3 k) := by decide +kernel
abbrev cX3_init : ByteArray := prog_5_method_1_code
def yX3_init : MethodName := ⟨RX3, "<init>", "()V"⟩
abbrev cX3_read : ByteArray := prog_5_method_2_code
def yX3_read : MethodName := ⟨RX3, "read", "(ILSpoonScales$Law;)V"⟩
abbrev cX3_fail : ByteArray := prog_5_method_3_code
def yX3_fail : MethodName := ⟨RX3, "fail", "(I)V"⟩
abbrev cX3_advance : ByteArray := prog_5_method_4_code
def yX3_advance : MethodName := ⟨RX3, "advance", "()V"⟩
abbrev cX3_isLetter : ByteArray := prog_5_method_5_code
def yX3_isLetter : MethodName := ⟨RX3, "isLetter", "(I)Z"⟩
abbrev cX3_isDigit : ByteArray := prog_5_method_6_code
def yX3_isDigit : MethodName := ⟨RX3, "isDigit", "(I)Z"⟩
abbrev cX3_wordAt : ByteArray := prog_5_method_7_code
def yX3_wordAt : MethodName := ⟨RX3, "wordAt", "(II)I"⟩
abbrev cX3_readNumber : ByteArray := prog_5_method_8_code
def yX3_readNumber : MethodName := ⟨RX3, "readNumber", "()V"⟩
abbrev cX3_readSign : ByteArray := prog_5_method_9_code
def yX3_readSign : MethodName := ⟨RX3, "readSign", "()V"⟩
abbrev cX3_readClause : ByteArray := prog_5_method_10_code
def yX3_readClause : MethodName := ⟨RX3, "readClause", "(I)V"⟩
abbrev cX3_readDeed : ByteArray := prog_5_method_11_code
def yX3_readDeed : MethodName := ⟨RX3, "readDeed", "(II)V"⟩
abbrev cX3_expect : ByteArray := prog_5_method_12_code
def yX3_expect : MethodName := ⟨RX3, "expect", "(I)V"⟩
abbrev cX3_readNumberOf : ByteArray := prog_5_method_13_code
def yX3_readNumberOf : MethodName := ⟨RX3, "readNumberOf", "(II)I"⟩
abbrev cX3_readLaw : ByteArray := prog_5_method_14_code
def yX3_readLaw : MethodName := ⟨RX3, "readLaw", "(I)V"⟩
abbrev cX3_readOne : ByteArray := prog_5_method_15_code
def yX3_readOne : MethodName := ⟨RX3, "readOne", "(I)V"⟩
abbrev cX3_readBetween : ByteArray := prog_5_method_16_code
def yX3_readBetween : MethodName := ⟨RX3, "readBetween", "(I)V"⟩
abbrev cX3_isComparison : ByteArray := prog_5_method_17_code
def yX3_isComparison : MethodName := ⟨RX3, "isComparison", "(I)Z"⟩
abbrev cX3_isAheadOfAsk : ByteArray := prog_5_method_18_code
def yX3_isAheadOfAsk : MethodName := ⟨RX3, "isAheadOfAsk", "()Z"⟩
abbrev cX3_openUp : ByteArray := prog_5_method_19_code
def yX3_openUp : MethodName := ⟨RX3, "openUp", "(I)V"⟩
abbrev cX3_hold : ByteArray := prog_5_method_20_code
def yX3_hold : MethodName := ⟨RX3, "hold", "()V"⟩
abbrev cX3_putWaiting : ByteArray := prog_5_method_21_code
def yX3_putWaiting : MethodName := ⟨RX3, "putWaiting", "(I)V"⟩
abbrev cX3_dropWaiting : ByteArray := prog_5_method_22_code
def yX3_dropWaiting : MethodName := ⟨RX3, "dropWaiting", "()V"⟩
abbrev cX3_release : ByteArray := prog_5_method_23_code
def yX3_release : MethodName := ⟨RX3, "release", "(I)V"⟩
abbrev cX3_bindingOf : ByteArray := prog_5_method_24_code
def yX3_bindingOf : MethodName := ⟨RX3, "bindingOf", "(I)I"⟩
def RX4 : String := "SpoonScales$Scene"
def TX4 : u_T := fun k => match k with
  | 0 => ("SpoonScales$Scene", "pots", "[I", true)
  | 1 => ("SpoonScales$Scene", "where", "[I", true)
  | 2 => ("SpoonScales$Scene", "eaten", "[I", true)
  | 3 => ("SpoonScales$Scene", "spoons", "I", false)
  | 4 => ("SpoonScales$Scene", "dents", "I", false)
  | _ => ("SpoonScales$Scene", "x", "I", false)
def tyX4 : Nat → FieldType := fun k => match k with
  | 0 => .array .int
  | 1 => .array .int
  | 2 => .array .int
  | 3 => .int
  | 4 => .int
  | _ => .int
abbrev wsX40 : List Cond := u_ws RX4 TX4 6
theorem nmX4 : ∀ a, a < 6 → ∀ b, b < 6 → a ≠ b → (TX4 a).2.1 ≠ (TX4 b).2.1 := by decide +kernel
theorem tyX4_ok : ∀ k, k < 6 → parseFieldDescriptor (TX4 k).2.2.1 = some (tyX4 k) := by decide +kernel
abbrev cX4_init : ByteArray := prog_6_method_1_code
def yX4_init : MethodName := ⟨RX4, "<init>", "()V"⟩
abbrev cX4_copyFrom : ByteArray := prog_6_method_2_code
def yX4_copyFrom : MethodName := ⟨RX4, "copyFrom", "(LSpoonScales$Scene;)V"⟩
abbrev cX4_tilt : ByteArray := prog_6_method_3_code
def yX4_tilt : MethodName := ⟨RX4, "tilt", "()I"⟩
abbrev cX4_drawPot : ByteArray := prog_6_method_4_code
def yX4_drawPot : MethodName := ⟨RX4, "drawPot", "()I"⟩
abbrev cX4_eat : ByteArray := prog_6_method_5_code
def yX4_eat : MethodName := ⟨RX4, "eat", "(III)V"⟩
abbrev cX4_giveBack : ByteArray := prog_6_method_6_code
def yX4_giveBack : MethodName := ⟨RX4, "giveBack", "(III)V"⟩
def RX5 : String := "SpoonScales$Trial"
def TX5 : u_T := fun k => match k with
  | 0 => ("SpoonScales$Trial", "bench", "LSpoonScales$Bench;", true)
  | 1 => ("SpoonScales$Trial", "court", "LSpoonScales$Court;", true)
  | 2 => ("SpoonScales$Trial", "scene", "LSpoonScales$Scene;", true)
  | 3 => ("SpoonScales$Trial", "path", "[I", true)
  | 4 => ("SpoonScales$Trial", "amounts", "[I", true)
  | 5 => ("SpoonScales$Trial", "best", "[I", true)
  | 6 => ("SpoonScales$Trial", "bestTilt", "I", false)
  | 7 => ("SpoonScales$Trial", "acquitting", "[I", true)
  | 8 => ("SpoonScales$Trial", "found", "I", false)
  | 9 => ("SpoonScales$Trial", "foundHoney", "I", false)
  | 10 => ("SpoonScales$Trial", "judged", "I", false)
  | _ => ("SpoonScales$Trial", "goal", "I", false)
def tyX5 : Nat → FieldType := fun k => match k with
  | 0 => .object "SpoonScales$Bench"
  | 1 => .object "SpoonScales$Court"
  | 2 => .object "SpoonScales$Scene"
  | 3 => .array .int
  | 4 => .array .int
  | 5 => .array .int
  | 6 => .int
  | 7 => .array .int
  | 8 => .int
  | 9 => .int
  | 10 => .int
  | _ => .int
abbrev wsX50 : List Cond := u_ws RX5 TX5 12
theorem nmX5 : ∀ a, a < 12 → ∀ b, b < 12 → a ≠ b → (TX5 a).2.1 ≠ (TX5 b).2.1 := by decide +kernel
theorem tyX5_ok : ∀ k, k < 12 → parseFieldDescriptor (TX5 k).2.2.1 = some (tyX5 k) := by decide +kernel
abbrev cX5_init : ByteArray := prog_7_method_1_code
def yX5_init : MethodName := ⟨RX5, "<init>", "()V"⟩
abbrev cX5_leavesJust : ByteArray := prog_7_method_2_code
def yX5_leavesJust : MethodName := ⟨RX5, "leavesJust", "(III)Z"⟩
abbrev cX5_callInBestOrder : ByteArray := prog_7_method_3_code
def yX5_callInBestOrder : MethodName := ⟨RX5, "callInBestOrder", "(II)V"⟩
abbrev cX5_callRest : ByteArray := prog_7_method_4_code
def yX5_callRest : MethodName := ⟨RX5, "callRest", "(III)V"⟩
abbrev cX5_seekAcquittal : ByteArray := prog_7_method_5_code
def yX5_seekAcquittal : MethodName := ⟨RX5, "seekAcquittal", "(I)V"⟩
abbrev cX5_trySpoons : ByteArray := prog_7_method_6_code
def yX5_trySpoons : MethodName := ⟨RX5, "trySpoons", "(II)V"⟩
abbrev cX5_keepFound : ByteArray := prog_7_method_7_code
def yX5_keepFound : MethodName := ⟨RX5, "keepFound", "(I)V"⟩
abbrev cX5_swaps : ByteArray := prog_7_method_8_code
def yX5_swaps : MethodName := ⟨RX5, "swaps", "(III)Z"⟩
def RX6 : String := "SpoonScales"
def TX6 : u_T := fun k => match k with
  | 0 => ("SpoonScales", "trial", "LSpoonScales$Trial;", true)
  | 1 => ("SpoonScales", "bench", "LSpoonScales$Bench;", true)
  | 2 => ("SpoonScales", "court", "LSpoonScales$Court;", true)
  | 3 => ("SpoonScales", "kept", "LSpoonScales$Court;", true)
  | 4 => ("SpoonScales", "reader", "LSpoonScales$Reader;", true)
  | 5 => ("SpoonScales", "rooms", "[I", true)
  | 6 => ("SpoonScales", "tapeLength", "I", false)
  | 7 => ("SpoonScales", "latestFault", "I", false)
  | 8 => ("SpoonScales", "latestPlace", "I", false)
  | _ => ("SpoonScales", "soughtSide", "I", false)
def tyX6 : Nat → FieldType := fun k => match k with
  | 0 => .object "SpoonScales$Trial"
  | 1 => .object "SpoonScales$Bench"
  | 2 => .object "SpoonScales$Court"
  | 3 => .object "SpoonScales$Court"
  | 4 => .object "SpoonScales$Reader"
  | 5 => .array .int
  | 6 => .int
  | 7 => .int
  | 8 => .int
  | _ => .int
abbrev wsX60 : List Cond := u_ws RX6 TX6 10
theorem nmX6 : ∀ a, a < 10 → ∀ b, b < 10 → a ≠ b → (TX6 a).2.1 ≠ (TX6 b).2.1 := by decide +kernel
theorem tyX6_ok : ∀ k, k < 10 → parseFieldDescriptor (TX6 k).2.2.1 = some (tyX6 k) := by decide +kernel
abbrev cX6_init : ByteArray := prog_1_method_1_code
def yX6_init : MethodName := ⟨RX6, "<init>", "()V"⟩
abbrev cX6_pot : ByteArray := prog_1_method_2_code
def yX6_pot : MethodName := ⟨RX6, "pot", "(III)Z"⟩
abbrev cX6_eater : ByteArray := prog_1_method_3_code
def yX6_eater : MethodName := ⟨RX6, "eater", "(III)I"⟩
abbrev cX6_seed : ByteArray := prog_1_method_4_code
def yX6_seed : MethodName := ⟨RX6, "seed", "(I)Z"⟩
abbrev cX6_sit : ByteArray := prog_1_method_5_code
def yX6_sit : MethodName := ⟨RX6, "sit", "(II)Z"⟩
abbrev cX6_spoon : ByteArray := prog_1_method_6_code
def yX6_spoon : MethodName := ⟨RX6, "spoon", "(II)I"⟩
abbrev cX6_judge : ByteArray := prog_1_method_7_code
def yX6_judge : MethodName := ⟨RX6, "judge", "(I)I"⟩
abbrev cX6_flies : ByteArray := prog_1_method_8_code
def yX6_flies : MethodName := ⟨RX6, "flies", "(I)I"⟩
abbrev cX6_feed : ByteArray := prog_1_method_9_code
def yX6_feed : MethodName := ⟨RX6, "feed", "(IIIII)I"⟩
abbrev cX6_end : ByteArray := prog_1_method_10_code
def yX6_end : MethodName := ⟨RX6, "end", "(I)I"⟩
abbrev cX6_text : ByteArray := prog_1_method_11_code
def yX6_text : MethodName := ⟨RX6, "text", "()I"⟩
abbrev cX6_fault : ByteArray := prog_1_method_12_code
def yX6_fault : MethodName := ⟨RX6, "fault", "(I)I"⟩
abbrev cX6_by : ByteArray := prog_1_method_13_code
def yX6_by : MethodName := ⟨RX6, "by", "(I)Z"⟩
abbrev cX6_played : ByteArray := prog_1_method_14_code
def yX6_played : MethodName := ⟨RX6, "played", "(I)I"⟩
abbrev cX6_undo : ByteArray := prog_1_method_15_code
def yX6_undo : MethodName := ⟨RX6, "undo", "()I"⟩
abbrev cX6_of : ByteArray := prog_1_method_16_code
def yX6_of : MethodName := ⟨RX6, "of", "(II)I"⟩
abbrev cX6_written : ByteArray := prog_1_method_17_code
def yX6_written : MethodName := ⟨RX6, "written", "(II)I"⟩
abbrev cX6_dent : ByteArray := prog_1_method_18_code
def yX6_dent : MethodName := ⟨RX6, "dent", "(II)I"⟩
abbrev cX6_called : ByteArray := prog_1_method_19_code
def yX6_called : MethodName := ⟨RX6, "called", "(III)I"⟩
abbrev cX6_acquitted : ByteArray := prog_1_method_20_code
def yX6_acquitted : MethodName := ⟨RX6, "acquitted", "(II)I"⟩
abbrev cX6_sets : ByteArray := prog_1_method_21_code
def yX6_sets : MethodName := ⟨RX6, "sets", "(IIII)I"⟩
abbrev cX6_tested : ByteArray := prog_1_method_22_code
def yX6_tested : MethodName := ⟨RX6, "tested", "(II)I"⟩
abbrev cX6_fits : ByteArray := prog_1_method_23_code
def yX6_fits : MethodName := ⟨RX6, "fits", "()I"⟩
abbrev cX6_next : ByteArray := prog_1_method_24_code
def yX6_next : MethodName := ⟨RX6, "next", "()I"⟩
abbrev cX6_hired : ByteArray := prog_1_method_25_code
def yX6_hired : MethodName := ⟨RX6, "hired", "(I)I"⟩
abbrev cX6_contrary : ByteArray := prog_1_method_26_code
def yX6_contrary : MethodName := ⟨RX6, "contrary", "()I"⟩
abbrev cX6_odds : ByteArray := prog_1_method_27_code
def yX6_odds : MethodName := ⟨RX6, "odds", "(IIZ)J"⟩
abbrev cX6_tell : ByteArray := prog_1_method_28_code
def yX6_tell : MethodName := ⟨RX6, "tell", "(II)I"⟩
abbrev cX6_liars : ByteArray := prog_1_method_29_code
def yX6_liars : MethodName := ⟨RX6, "liars", "()I"⟩
abbrev cX6_inWhoseName : ByteArray := prog_1_method_30_code
def yX6_inWhoseName : MethodName := ⟨RX6, "inWhoseName", "(I)I"⟩
abbrev cX6_image : ByteArray := prog_1_method_31_code
def yX6_image : MethodName := ⟨RX6, "image", "()I"⟩
abbrev cX6_back : ByteArray := prog_1_method_32_code
def yX6_back : MethodName := ⟨RX6, "back", "()I"⟩
abbrev cX6_about : ByteArray := prog_1_method_33_code
def yX6_about : MethodName := ⟨RX6, "about", "(I)I"⟩
abbrev cX6_isSide : ByteArray := prog_1_method_34_code
def yX6_isSide : MethodName := ⟨RX6, "isSide", "(I)Z"⟩
abbrev cX6_isKind : ByteArray := prog_1_method_35_code
def yX6_isKind : MethodName := ⟨RX6, "isKind", "(I)Z"⟩
abbrev cX6_isEater : ByteArray := prog_1_method_36_code
def yX6_isEater : MethodName := ⟨RX6, "isEater", "(I)Z"⟩
abbrev cX6_isText : ByteArray := prog_1_method_37_code
def yX6_isText : MethodName := ⟨RX6, "isText", "(I)Z"⟩
abbrev cX6_forgetSought : ByteArray := prog_1_method_38_code
def yX6_forgetSought : MethodName := ⟨RX6, "forgetSought", "()V"⟩
abbrev cX6_putBytes : ByteArray := prog_1_method_39_code
def yX6_putBytes : MethodName := ⟨RX6, "putBytes", "(I)V"⟩
abbrev cX6_playClause : ByteArray := prog_1_method_40_code
def yX6_playClause : MethodName := ⟨RX6, "playClause", "(LSpoonScales$Law;I)Z"⟩
abbrev cX6_canBeCalled : ByteArray := prog_1_method_41_code
def yX6_canBeCalled : MethodName := ⟨RX6, "canBeCalled", "(I)Z"⟩
abbrev cX6_hang : ByteArray := prog_1_method_42_code
def yX6_hang : MethodName := ⟨RX6, "hang", "(I)I"⟩
abbrev cX6_mostAlike : ByteArray := prog_1_method_43_code
def yX6_mostAlike : MethodName := ⟨RX6, "mostAlike", "(I)I"⟩
abbrev cX6_priceOf : ByteArray := prog_1_method_44_code
def yX6_priceOf : MethodName := ⟨RX6, "priceOf", "(I)I"⟩
abbrev cX6_roomOf : ByteArray := prog_1_method_45_code
def yX6_roomOf : MethodName := ⟨RX6, "roomOf", "(I)I"⟩
abbrev cX6_waysTo : ByteArray := prog_1_method_46_code
def yX6_waysTo : MethodName := ⟨RX6, "waysTo", "(II)I"⟩
abbrev cX6_chosen : ByteArray := prog_1_method_47_code
def yX6_chosen : MethodName := ⟨RX6, "chosen", "(II)I"⟩
def RX7 : String := "SpoonScalesModel"
def TX7 : u_T := fun k => match k with
  | 0 => ("SpoonScalesModel", "a", "[I", true)
  | 1 => ("SpoonScalesModel", "image", "[I", true)
  | 2 => ("SpoonScalesModel", "tape", "[B", true)
  | 3 => ("SpoonScalesModel", "taped", "I", false)
  | 4 => ("SpoonScalesModel", "fault", "I", false)
  | 5 => ("SpoonScalesModel", "faultAt", "I", false)
  | 6 => ("SpoonScalesModel", "clauses", "[I", true)
  | 7 => ("SpoonScalesModel", "clauseWord", "[I", true)
  | 8 => ("SpoonScalesModel", "clauseAt", "[I", true)
  | 9 => ("SpoonScalesModel", "clauseOne", "[I", true)
  | 10 => ("SpoonScalesModel", "clauseTwo", "[I", true)
  | 11 => ("SpoonScalesModel", "order", "[I", true)
  | 12 => ("SpoonScalesModel", "value", "[I", true)
  | 13 => ("SpoonScalesModel", "length", "I", false)
  | 14 => ("SpoonScalesModel", "at", "I", false)
  | 15 => ("SpoonScalesModel", "token", "I", false)
  | 16 => ("SpoonScalesModel", "sort", "I", false)
  | 17 => ("SpoonScalesModel", "told", "I", false)
  | 18 => ("SpoonScalesModel", "wrong", "I", false)
  | 19 => ("SpoonScalesModel", "wrongAt", "I", false)
  | 20 => ("SpoonScalesModel", "open", "I", false)
  | 21 => ("SpoonScalesModel", "frames", "I", false)
  | 22 => ("SpoonScalesModel", "frame", "[I", true)
  | 23 => ("SpoonScalesModel", "compare", "[I", true)
  | 24 => ("SpoonScalesModel", "waits", "I", false)
  | 25 => ("SpoonScalesModel", "wait", "[I", true)
  | 26 => ("SpoonScalesModel", "waitFrame", "[I", true)
  | 27 => ("SpoonScalesModel", "state", "I", false)
  | 28 => ("SpoonScalesModel", "newClauses", "I", false)
  | 29 => ("SpoonScalesModel", "newKind", "I", false)
  | 30 => ("SpoonScalesModel", "newWord", "[I", true)
  | 31 => ("SpoonScalesModel", "newAt", "[I", true)
  | 32 => ("SpoonScalesModel", "newOne", "[I", true)
  | 33 => ("SpoonScalesModel", "newTwo", "[I", true)
  | 34 => ("SpoonScalesModel", "newOrders", "I", false)
  | 35 => ("SpoonScalesModel", "newOrder", "[I", true)
  | 36 => ("SpoonScalesModel", "newValue", "[I", true)
  | 37 => ("SpoonScalesModel", "name", "[I", true)
  | 38 => ("SpoonScalesModel", "pile", "[J", true)
  | 39 => ("SpoonScalesModel", "pots", "[I", true)
  | 40 => ("SpoonScalesModel", "ate", "[I", true)
  | 41 => ("SpoonScalesModel", "eatenSpoons", "I", false)
  | 42 => ("SpoonScalesModel", "callable", "[I", true)
  | 43 => ("SpoonScalesModel", "called", "[I", true)
  | 44 => ("SpoonScalesModel", "best", "[I", true)
  | 45 => ("SpoonScalesModel", "row", "[I", true)
  | 46 => ("SpoonScalesModel", "bestRow", "[I", true)
  | _ => ("SpoonScalesModel", "leastHoney", "I", false)
def tyX7 : Nat → FieldType := fun k => match k with
  | 0 => .array .int
  | 1 => .array .int
  | 2 => .array .byte
  | 3 => .int
  | 4 => .int
  | 5 => .int
  | 6 => .array .int
  | 7 => .array .int
  | 8 => .array .int
  | 9 => .array .int
  | 10 => .array .int
  | 11 => .array .int
  | 12 => .array .int
  | 13 => .int
  | 14 => .int
  | 15 => .int
  | 16 => .int
  | 17 => .int
  | 18 => .int
  | 19 => .int
  | 20 => .int
  | 21 => .int
  | 22 => .array .int
  | 23 => .array .int
  | 24 => .int
  | 25 => .array .int
  | 26 => .array .int
  | 27 => .int
  | 28 => .int
  | 29 => .int
  | 30 => .array .int
  | 31 => .array .int
  | 32 => .array .int
  | 33 => .array .int
  | 34 => .int
  | 35 => .array .int
  | 36 => .array .int
  | 37 => .array .int
  | 38 => .array .long
  | 39 => .array .int
  | 40 => .array .int
  | 41 => .int
  | 42 => .array .int
  | 43 => .array .int
  | 44 => .array .int
  | 45 => .array .int
  | 46 => .array .int
  | _ => .int
abbrev wsX70 : List Cond := u_ws RX7 TX7 48
theorem nmX7 : ∀ a, a < 48 → ∀ b, b < 48 → a ≠ b → (TX7 a).2.1 ≠ (TX7 b).2.1 := by decide +kernel
theorem tyX7_ok : ∀ k, k < 48 → parseFieldDescriptor (TX7 k).2.2.1 = some (tyX7 k) := by decide +kernel
abbrev cX7_init : ByteArray := prog_9_method_1_code
def yX7_init : MethodName := ⟨RX7, "<init>", "()V"⟩
abbrev cX7_in : ByteArray := prog_9_method_2_code
def yX7_in : MethodName := ⟨RX7, "in", "(III)Z"⟩
abbrev cX7_copies : ByteArray := prog_9_method_3_code
def yX7_copies : MethodName := ⟨RX7, "copies", "(Z)V"⟩
abbrev cX7_isEater : ByteArray := prog_9_method_4_code
def yX7_isEater : MethodName := ⟨RX7, "isEater", "(I)Z"⟩
abbrev cX7_isOne : ByteArray := prog_9_method_5_code
def yX7_isOne : MethodName := ⟨RX7, "isOne", "(I)Z"⟩
abbrev cX7_pot : ByteArray := prog_9_method_6_code
def yX7_pot : MethodName := ⟨RX7, "pot", "(III)Z"⟩
abbrev cX7_eater : ByteArray := prog_9_method_7_code
def yX7_eater : MethodName := ⟨RX7, "eater", "(III)I"⟩
abbrev cX7_seed : ByteArray := prog_9_method_8_code
def yX7_seed : MethodName := ⟨RX7, "seed", "(I)Z"⟩
abbrev cX7_keepsStep : ByteArray := prog_9_method_9_code
def yX7_keepsStep : MethodName := ⟨RX7, "keepsStep", "()V"⟩
abbrev cX7_undo : ByteArray := prog_9_method_10_code
def yX7_undo : MethodName := ⟨RX7, "undo", "()I"⟩
abbrev cX7_put : ByteArray := prog_9_method_11_code
def yX7_put : MethodName := ⟨RX7, "put", "(I)V"⟩
abbrev cX7_feed : ByteArray := prog_9_method_12_code
def yX7_feed : MethodName := ⟨RX7, "feed", "(IIIII)I"⟩
abbrev cX7_end : ByteArray := prog_9_method_13_code
def yX7_end : MethodName := ⟨RX7, "end", "(I)I"⟩
abbrev cX7_isLetter : ByteArray := prog_9_method_14_code
def yX7_isLetter : MethodName := ⟨RX7, "isLetter", "(I)Z"⟩
abbrev cX7_wordOf : ByteArray := prog_9_method_15_code
def yX7_wordOf : MethodName := ⟨RX7, "wordOf", "(J)I"⟩
abbrev cX7_nextToken : ByteArray := prog_9_method_16_code
def yX7_nextToken : MethodName := ⟨RX7, "nextToken", "()V"⟩
abbrev cX7_isSign : ByteArray := prog_9_method_17_code
def yX7_isSign : MethodName := ⟨RX7, "isSign", "(I)Z"⟩
abbrev cX7_isWord : ByteArray := prog_9_method_18_code
def yX7_isWord : MethodName := ⟨RX7, "isWord", "(I)Z"⟩
abbrev cX7_errs : ByteArray := prog_9_method_19_code
def yX7_errs : MethodName := ⟨RX7, "errs", "(I)V"⟩
abbrev cX7_emits : ByteArray := prog_9_method_20_code
def yX7_emits : MethodName := ⟨RX7, "emits", "(II)V"⟩
abbrev cX7_opensFrame : ByteArray := prog_9_method_21_code
def yX7_opensFrame : MethodName := ⟨RX7, "opensFrame", "(I)V"⟩
abbrev cX7_top : ByteArray := prog_9_method_22_code
def yX7_top : MethodName := ⟨RX7, "top", "()I"⟩
abbrev cX7_opensSign : ByteArray := prog_9_method_23_code
def yX7_opensSign : MethodName := ⟨RX7, "opensSign", "(I)Z"⟩
abbrev cX7_rank : ByteArray := prog_9_method_24_code
def yX7_rank : MethodName := ⟨RX7, "rank", "(I)I"⟩
abbrev cX7_works : ByteArray := prog_9_method_25_code
def yX7_works : MethodName := ⟨RX7, "works", "(I)V"⟩
abbrev cX7_waitsFor : ByteArray := prog_9_method_26_code
def yX7_waitsFor : MethodName := ⟨RX7, "waitsFor", "(I)V"⟩
abbrev cX7_asks : ByteArray := prog_9_method_27_code
def yX7_asks : MethodName := ⟨RX7, "asks", "()V"⟩
abbrev cX7_mayName : ByteArray := prog_9_method_28_code
def yX7_mayName : MethodName := ⟨RX7, "mayName", "(II)Z"⟩
abbrev cX7_begins : ByteArray := prog_9_method_29_code
def yX7_begins : MethodName := ⟨RX7, "begins", "()V"⟩
abbrev cX7_oneIsOver : ByteArray := prog_9_method_30_code
def yX7_oneIsOver : MethodName := ⟨RX7, "oneIsOver", "()V"⟩
abbrev cX7_askIsOver : ByteArray := prog_9_method_31_code
def yX7_askIsOver : MethodName := ⟨RX7, "askIsOver", "()V"⟩
abbrev cX7_isAsking : ByteArray := prog_9_method_32_code
def yX7_isAsking : MethodName := ⟨RX7, "isAsking", "(I)Z"⟩
abbrev cX7_goesOn : ByteArray := prog_9_method_33_code
def yX7_goesOn : MethodName := ⟨RX7, "goesOn", "()V"⟩
abbrev cX7_asksOn : ByteArray := prog_9_method_34_code
def yX7_asksOn : MethodName := ⟨RX7, "asksOn", "()V"⟩
abbrev cX7_clauseIsOver : ByteArray := prog_9_method_35_code
def yX7_clauseIsOver : MethodName := ⟨RX7, "clauseIsOver", "()V"⟩
abbrev cX7_number : ByteArray := prog_9_method_36_code
def yX7_number : MethodName := ⟨RX7, "number", "(II)I"⟩
abbrev cX7_wasTold : ByteArray := prog_9_method_37_code
def yX7_wasTold : MethodName := ⟨RX7, "wasTold", "(I)Z"⟩
abbrev cX7_wants : ByteArray := prog_9_method_38_code
def yX7_wants : MethodName := ⟨RX7, "wants", "(I)V"⟩
abbrev cX7_clause : ByteArray := prog_9_method_39_code
def yX7_clause : MethodName := ⟨RX7, "clause", "()V"⟩
abbrev cX7_text : ByteArray := prog_9_method_40_code
def yX7_text : MethodName := ⟨RX7, "text", "()I"⟩
abbrev cX7_fault : ByteArray := prog_9_method_41_code
def yX7_fault : MethodName := ⟨RX7, "fault", "(I)I"⟩
abbrev cX7_bound : ByteArray := prog_9_method_42_code
def yX7_bound : MethodName := ⟨RX7, "bound", "(J)J"⟩
abbrev cX7_worked : ByteArray := prog_9_method_43_code
def yX7_worked : MethodName := ⟨RX7, "worked", "(IJJ)J"⟩
abbrev cX7_saysOf : ByteArray := prog_9_method_44_code
def yX7_saysOf : MethodName := ⟨RX7, "saysOf", "(I)J"⟩
abbrev cX7_by : ByteArray := prog_9_method_45_code
def yX7_by : MethodName := ⟨RX7, "by", "(I)Z"⟩
abbrev cX7_ordersOf : ByteArray := prog_9_method_46_code
def yX7_ordersOf : MethodName := ⟨RX7, "ordersOf", "(I)I"⟩
abbrev cX7_laysWorld : ByteArray := prog_9_method_47_code
def yX7_laysWorld : MethodName := ⟨RX7, "laysWorld", "()V"⟩
abbrev cX7_held : ByteArray := prog_9_method_48_code
def yX7_held : MethodName := ⟨RX7, "held", "(JII)I"⟩
abbrev cX7_least : ByteArray := prog_9_method_49_code
def yX7_least : MethodName := ⟨RX7, "least", "(II)I"⟩
abbrev cX7_names : ByteArray := prog_9_method_50_code
def yX7_names : MethodName := ⟨RX7, "names", "(I)V"⟩
abbrev cX7_stillHolds : ByteArray := prog_9_method_51_code
def yX7_stillHolds : MethodName := ⟨RX7, "stillHolds", "(I)I"⟩
abbrev cX7_spoonOf : ByteArray := prog_9_method_52_code
def yX7_spoonOf : MethodName := ⟨RX7, "spoonOf", "(II)I"⟩
abbrev cX7_eats : ByteArray := prog_9_method_53_code
def yX7_eats : MethodName := ⟨RX7, "eats", "(II)I"⟩
abbrev cX7_tilt : ByteArray := prog_9_method_54_code
def yX7_tilt : MethodName := ⟨RX7, "tilt", "()I"⟩
abbrev cX7_isGuilty : ByteArray := prog_9_method_55_code
def yX7_isGuilty : MethodName := ⟨RX7, "isGuilty", "(I)Z"⟩
abbrev cX7_sit : ByteArray := prog_9_method_56_code
def yX7_sit : MethodName := ⟨RX7, "sit", "(II)Z"⟩
abbrev cX7_spoon : ByteArray := prog_9_method_57_code
def yX7_spoon : MethodName := ⟨RX7, "spoon", "(II)I"⟩
abbrev cX7_judge : ByteArray := prog_9_method_58_code
def yX7_judge : MethodName := ⟨RX7, "judge", "(I)I"⟩
abbrev cX7_draw : ByteArray := prog_9_method_59_code
def yX7_draw : MethodName := ⟨RX7, "draw", "(I)I"⟩
abbrev cX7_flies : ByteArray := prog_9_method_60_code
def yX7_flies : MethodName := ⟨RX7, "flies", "(I)I"⟩
abbrev cX7_played : ByteArray := prog_9_method_61_code
def yX7_played : MethodName := ⟨RX7, "played", "(I)I"⟩
abbrev cX7_of : ByteArray := prog_9_method_62_code
def yX7_of : MethodName := ⟨RX7, "of", "(II)I"⟩
abbrev cX7_written : ByteArray := prog_9_method_63_code
def yX7_written : MethodName := ⟨RX7, "written", "(II)I"⟩
abbrev cX7_dent : ByteArray := prog_9_method_64_code
def yX7_dent : MethodName := ⟨RX7, "dent", "(II)I"⟩
abbrev cX7_rows : ByteArray := prog_9_method_65_code
def yX7_rows : MethodName := ⟨RX7, "rows", "(I)I"⟩
abbrev cX7_laysOrder : ByteArray := prog_9_method_66_code
def yX7_laysOrder : MethodName := ⟨RX7, "laysOrder", "(II)V"⟩
abbrev cX7_size : ByteArray := prog_9_method_67_code
def yX7_size : MethodName := ⟨RX7, "size", "(I)I"⟩
abbrev cX7_called : ByteArray := prog_9_method_68_code
def yX7_called : MethodName := ⟨RX7, "called", "(III)I"⟩
abbrev cX7_acquits : ByteArray := prog_9_method_69_code
def yX7_acquits : MethodName := ⟨RX7, "acquits", "(II)Z"⟩
abbrev cX7_acquitted : ByteArray := prog_9_method_70_code
def yX7_acquitted : MethodName := ⟨RX7, "acquitted", "(II)I"⟩
abbrev cX7_sets : ByteArray := prog_9_method_71_code
def yX7_sets : MethodName := ⟨RX7, "sets", "(IIII)I"⟩
abbrev cX7_tested : ByteArray := prog_9_method_72_code
def yX7_tested : MethodName := ⟨RX7, "tested", "(II)I"⟩
abbrev cX7_hangs : ByteArray := prog_9_method_73_code
def yX7_hangs : MethodName := ⟨RX7, "hangs", "(II)I"⟩
abbrev cX7_fits : ByteArray := prog_9_method_74_code
def yX7_fits : MethodName := ⟨RX7, "fits", "()I"⟩
abbrev cX7_mostAlike : ByteArray := prog_9_method_75_code
def yX7_mostAlike : MethodName := ⟨RX7, "mostAlike", "(II)I"⟩
abbrev cX7_next : ByteArray := prog_9_method_76_code
def yX7_next : MethodName := ⟨RX7, "next", "()I"⟩
abbrev cX7_hired : ByteArray := prog_9_method_77_code
def yX7_hired : MethodName := ⟨RX7, "hired", "(I)I"⟩
abbrev cX7_contrary : ByteArray := prog_9_method_78_code
def yX7_contrary : MethodName := ⟨RX7, "contrary", "()I"⟩
abbrev cX7_common : ByteArray := prog_9_method_79_code
def yX7_common : MethodName := ⟨RX7, "common", "(JJ)J"⟩
abbrev cX7_odds : ByteArray := prog_9_method_80_code
def yX7_odds : MethodName := ⟨RX7, "odds", "(IIZ)J"⟩
abbrev cX7_tell : ByteArray := prog_9_method_81_code
def yX7_tell : MethodName := ⟨RX7, "tell", "(II)I"⟩
abbrev cX7_toldMore : ByteArray := prog_9_method_82_code
def yX7_toldMore : MethodName := ⟨RX7, "toldMore", "(I)I"⟩
abbrev cX7_liars : ByteArray := prog_9_method_83_code
def yX7_liars : MethodName := ⟨RX7, "liars", "()I"⟩
abbrev cX7_inWhoseName : ByteArray := prog_9_method_84_code
def yX7_inWhoseName : MethodName := ⟨RX7, "inWhoseName", "(I)I"⟩
abbrev cX7_image : ByteArray := prog_9_method_85_code
def yX7_image : MethodName := ⟨RX7, "image", "()I"⟩
abbrev cX7_back : ByteArray := prog_9_method_86_code
def yX7_back : MethodName := ⟨RX7, "back", "()I"⟩
abbrev cX7_about : ByteArray := prog_9_method_87_code
def yX7_about : MethodName := ⟨RX7, "about", "(I)I"⟩
def RJ11 : String := "java/lang/Character"
def TJ11 : u_T := fun k => match k with
  | _ => ("", "", "", false)
def tyJ11 : Nat → FieldType := fun k => match k with
  | _ => .int
abbrev wsJ110 : List Cond := u_ws RJ11 TJ11 0
theorem nmJ11 : ∀ a, a < 0 → ∀ b, b < 0 → a ≠ b → (TJ11 a).2.1 ≠ (TJ11 b).2.1 := by decide +kernel
theorem tyJ11_ok : ∀ k, k < 0 → parseFieldDescriptor (TJ11 k).2.2.1 = some (tyJ11 k) := by decide +kernel
abbrev cJ11_isValidCodePoint_9a6ad : ByteArray := prog_10_method_11_code
def yJ11_isValidCodePoint_9a6ad : MethodName := ⟨RJ11, "isValidCodePoint", "(I)Z"⟩
abbrev cJ11_highSurrogate_5068e : ByteArray := prog_10_method_28_code
def yJ11_highSurrogate_5068e : MethodName := ⟨RJ11, "highSurrogate", "(I)C"⟩
abbrev cJ11_lowSurrogate_5068e : ByteArray := prog_10_method_29_code
def yJ11_lowSurrogate_5068e : MethodName := ⟨RJ11, "lowSurrogate", "(I)C"⟩
def RJ6 : String := "java/lang/Integer"
def TJ6 : u_T := fun k => match k with
  | _ => ("", "", "", false)
def tyJ6 : Nat → FieldType := fun k => match k with
  | _ => .int
abbrev wsJ60 : List Cond := u_ws RJ6 TJ6 0
theorem nmJ6 : ∀ a, a < 0 → ∀ b, b < 0 → a ≠ b → (TJ6 a).2.1 ≠ (TJ6 b).2.1 := by decide +kernel
theorem tyJ6_ok : ∀ k, k < 0 → parseFieldDescriptor (TJ6 k).2.2.1 = some (tyJ6 k) := by decide +kernel
abbrev cJ6_bitCount_0f7a4 : ByteArray := prog_11_method_49_code
def yJ6_bitCount_0f7a4 : MethodName := ⟨RJ6, "bitCount", "(I)I"⟩
def RJ9 : String := "java/lang/Math"
def TJ9 : u_T := fun k => match k with
  | _ => ("", "", "", false)
def tyJ9 : Nat → FieldType := fun k => match k with
  | _ => .int
abbrev wsJ90 : List Cond := u_ws RJ9 TJ9 0
theorem nmJ9 : ∀ a, a < 0 → ∀ b, b < 0 → a ≠ b → (TJ9 a).2.1 ≠ (TJ9 b).2.1 := by decide +kernel
theorem tyJ9_ok : ∀ k, k < 0 → parseFieldDescriptor (TJ9 k).2.2.1 = some (tyJ9 k) := by decide +kernel
abbrev cJ9_abs_0f7a4 : ByteArray := prog_12_method_59_code
def yJ9_abs_0f7a4 : MethodName := ⟨RJ9, "abs", "(I)I"⟩
abbrev cJ9_max_7cf53 : ByteArray := prog_12_method_65_code
def yJ9_max_7cf53 : MethodName := ⟨RJ9, "max", "(II)I"⟩
abbrev cJ9_min_7cf53 : ByteArray := prog_12_method_69_code
def yJ9_min_7cf53 : MethodName := ⟨RJ9, "min", "(II)I"⟩
def RJ0 : String := "java/lang/String"
def TJ0 : u_T := fun k => match k with
  | _ => ("", "", "", false)
def tyJ0 : Nat → FieldType := fun k => match k with
  | _ => .int
abbrev wsJ00 : List Cond := u_ws RJ0 TJ0 0
theorem nmJ0 : ∀ a, a < 0 → ∀ b, b < 0 → a ≠ b → (TJ0 a).2.1 ≠ (TJ0 b).2.1 := by decide +kernel
theorem tyJ0_ok : ∀ k, k < 0 → parseFieldDescriptor (TJ0 k).2.2.1 = some (tyJ0 k) := by decide +kernel
abbrev cJ0_length_8abf5 : ByteArray := prog_13_method_54_code
def yJ0_length_8abf5 : MethodName := ⟨RJ0, "length", "()I"⟩
abbrev cJ0_charAt_5068e : ByteArray := prog_13_method_56_code
def yJ0_charAt_5068e : MethodName := ⟨RJ0, "charAt", "(I)C"⟩
abbrev cJ0_indexOf_0f7a4 : ByteArray := prog_13_method_79_code
def yJ0_indexOf_0f7a4 : MethodName := ⟨RJ0, "indexOf", "(I)I"⟩
abbrev cJ0_indexOf_7cf53 : ByteArray := prog_13_method_80_code
def yJ0_indexOf_7cf53 : MethodName := ⟨RJ0, "indexOf", "(II)I"⟩
abbrev cJ0_coder_7d493 : ByteArray := prog_13_method_152_code
def yJ0_coder_7d493 : MethodName := ⟨RJ0, "coder", "()B"⟩
abbrev cJ0_isLatin1_aae02 : ByteArray := prog_13_method_154_code
def yJ0_isLatin1_aae02 : MethodName := ⟨RJ0, "isLatin1", "()Z"⟩
abbrev cJ0_checkIndex_df160 : ByteArray := prog_13_method_155_code
def yJ0_checkIndex_df160 : MethodName := ⟨RJ0, "checkIndex", "(II)V"⟩
abbrev cJ0_checkBoundsBeginEnd_23922 : ByteArray := prog_13_method_158_code
def yJ0_checkBoundsBeginEnd_23922 : MethodName := ⟨RJ0, "checkBoundsBeginEnd", "(III)V"⟩
def RJ1 : String := "java/lang/StringLatin1"
def TJ1 : u_T := fun k => match k with
  | _ => ("", "", "", false)
def tyJ1 : Nat → FieldType := fun k => match k with
  | _ => .int
abbrev wsJ10 : List Cond := u_ws RJ1 TJ1 0
theorem nmJ1 : ∀ a, a < 0 → ∀ b, b < 0 → a ≠ b → (TJ1 a).2.1 ≠ (TJ1 b).2.1 := by decide +kernel
theorem tyJ1_ok : ∀ k, k < 0 → parseFieldDescriptor (TJ1 k).2.2.1 = some (tyJ1 k) := by decide +kernel
abbrev cJ1_charAt_3b067 : ByteArray := prog_14_method_2_code
def yJ1_charAt_3b067 : MethodName := ⟨RJ1, "charAt", "([BI)C"⟩
abbrev cJ1_canEncode_9a6ad : ByteArray := prog_14_method_4_code
def yJ1_canEncode_9a6ad : MethodName := ⟨RJ1, "canEncode", "(I)Z"⟩
abbrev cJ1_indexOf_4cfef : ByteArray := prog_14_method_22_code
def yJ1_indexOf_4cfef : MethodName := ⟨RJ1, "indexOf", "([BIII)I"⟩
abbrev cJ1_indexOfChar_4cfef : ByteArray := prog_14_method_23_code
def yJ1_indexOfChar_4cfef : MethodName := ⟨RJ1, "indexOfChar", "([BIII)I"⟩
def RJ2 : String := "java/lang/StringUTF16"
def TJ2 : u_T := fun k => match k with
  | _ => ("", "", "", false)
def tyJ2 : Nat → FieldType := fun k => match k with
  | _ => .int
abbrev wsJ20 : List Cond := u_ws RJ2 TJ2 0
theorem nmJ2 : ∀ a, a < 0 → ∀ b, b < 0 → a ≠ b → (TJ2 a).2.1 ≠ (TJ2 b).2.1 := by decide +kernel
theorem tyJ2_ok : ∀ k, k < 0 → parseFieldDescriptor (TJ2 k).2.2.1 = some (tyJ2 k) := by decide +kernel
abbrev cJ2_getChar_3b067 : ByteArray := prog_15_method_5_code
def yJ2_getChar_3b067 : MethodName := ⟨RJ2, "getChar", "([BI)C"⟩
abbrev cJ2_length_9d52b : ByteArray := prog_15_method_6_code
def yJ2_length_9d52b : MethodName := ⟨RJ2, "length", "([B)I"⟩
abbrev cJ2_indexOf_4cfef : ByteArray := prog_15_method_40_code
def yJ2_indexOf_4cfef : MethodName := ⟨RJ2, "indexOf", "([BIII)I"⟩
abbrev cJ2_indexOfChar_4cfef : ByteArray := prog_15_method_47_code
def yJ2_indexOfChar_4cfef : MethodName := ⟨RJ2, "indexOfChar", "([BIII)I"⟩
abbrev cJ2_indexOfCharUnsafe_4cfef : ByteArray := prog_15_method_48_code
def yJ2_indexOfCharUnsafe_4cfef : MethodName := ⟨RJ2, "indexOfCharUnsafe", "([BIII)I"⟩
abbrev cJ2_indexOfSupplementary_4cfef : ByteArray := prog_15_method_49_code
def yJ2_indexOfSupplementary_4cfef : MethodName := ⟨RJ2, "indexOfSupplementary", "([BIII)I"⟩
abbrev cJ2_charAt_3b067 : ByteArray := prog_15_method_83_code
def yJ2_charAt_3b067 : MethodName := ⟨RJ2, "charAt", "([BI)C"⟩
abbrev cJ2_checkIndex_2214a : ByteArray := prog_15_method_91_code
def yJ2_checkIndex_2214a : MethodName := ⟨RJ2, "checkIndex", "(I[B)V"⟩
abbrev cJ2_checkBoundsBeginEnd_d044e : ByteArray := prog_15_method_93_code
def yJ2_checkBoundsBeginEnd_d044e : MethodName := ⟨RJ2, "checkBoundsBeginEnd", "(II[B)V"⟩
def RJ10 : String := "java/lang/System"
def TJ10 : u_T := fun k => match k with
  | _ => ("", "", "", false)
def tyJ10 : Nat → FieldType := fun k => match k with
  | _ => .int
abbrev wsJ100 : List Cond := u_ws RJ10 TJ10 0
theorem nmJ10 : ∀ a, a < 0 → ∀ b, b < 0 → a ≠ b → (TJ10 a).2.1 ≠ (TJ10 b).2.1 := by decide +kernel
theorem tyJ10_ok : ∀ k, k < 0 → parseFieldDescriptor (TJ10 k).2.2.1 = some (tyJ10 k) := by decide +kernel
def RJ3 : String := "jdk/internal/util/Preconditions"
def TJ3 : u_T := fun k => match k with
  | _ => ("", "", "", false)
def tyJ3 : Nat → FieldType := fun k => match k with
  | _ => .int
abbrev wsJ30 : List Cond := u_ws RJ3 TJ3 0
theorem nmJ3 : ∀ a, a < 0 → ∀ b, b < 0 → a ≠ b → (TJ3 a).2.1 ≠ (TJ3 b).2.1 := by decide +kernel
theorem tyJ3_ok : ∀ k, k < 0 → parseFieldDescriptor (TJ3 k).2.2.1 = some (tyJ3 k) := by decide +kernel
abbrev cJ3_checkIndex_8e157 : ByteArray := prog_17_method_11_code
def yJ3_checkIndex_8e157 : MethodName := ⟨RJ3, "checkIndex", "(IILjava/util/function/BiFunction;)I"⟩
abbrev cJ3_checkFromToIndex_8c36e : ByteArray := prog_17_method_12_code
def yJ3_checkFromToIndex_8c36e : MethodName := ⟨RJ3, "checkFromToIndex", "(IIILjava/util/function/BiFunction;)I"⟩
theorem in_pos {big ws : List Cond} (ps : List Nat) (h : ps.map (fun i => big[i]?) = ws.map some) : ∀ w ∈ ws, w ∈ big := by
  intro w hw
  obtain ⟨k, hk⟩ := List.getElem?_of_mem hw
  have h1 : (ps.map (fun i => big[i]?))[k]? = some (some w) := by rw [h, List.getElem?_map, hk]; rfl
  rw [List.getElem?_map] at h1
  cases hp : ps[k]? with
  | none => rw [hp] at h1; cases h1
  | some i => rw [hp] at h1; exact List.mem_of_getElem? (Option.some.inj h1)
set_option maxRecDepth 20000 in
theorem inX0 : ∀ w ∈ wsX00, w ∈ lw_tbl := in_pos [283, 285, 287, 289] (by decide +kernel)
set_option maxRecDepth 20000 in
theorem inX1 : ∀ w ∈ wsX10, w ∈ lw_tbl := in_pos [195, 197, 199, 201, 203, 205, 207, 209, 211, 213, 215, 217, 219, 221, 223] (by decide +kernel)
set_option maxRecDepth 20000 in
theorem inX2 : ∀ w ∈ wsX20, w ∈ lw_tbl := in_pos [259, 261, 263, 265, 267, 269, 271, 273] (by decide +kernel)
set_option maxRecDepth 20000 in
theorem inX3 : ∀ w ∈ wsX30, w ∈ lw_tbl := in_pos [363, 365, 367, 369, 371, 373, 375, 377, 379, 381, 383, 385, 387, 389, 391] (by decide +kernel)
set_option maxRecDepth 20000 in
theorem inX4 : ∀ w ∈ wsX40, w ∈ lw_tbl := in_pos [145, 147, 149, 151, 153, 155] (by decide +kernel)
set_option maxRecDepth 20000 in
theorem inX5 : ∀ w ∈ wsX50, w ∈ lw_tbl := in_pos [312, 314, 316, 318, 320, 322, 324, 326, 328, 330, 332, 334] (by decide +kernel)
set_option maxRecDepth 20000 in
theorem inX6 : ∀ w ∈ wsX60, w ∈ lw_tbl := in_pos [404, 406, 408, 410, 412, 414, 416, 418, 420, 422] (by decide +kernel)
set_option maxRecDepth 20000 in
theorem inX7 : ∀ w ∈ wsX70, w ∈ lw_tbl := in_pos [1022, 1024, 1026, 1028, 1030, 1032, 1034, 1036, 1038, 1040, 1042, 1044, 1046, 1048, 1050, 1052, 1054, 1056, 1058, 1060, 1062, 1064, 1066, 1068, 1070, 1072, 1074, 1076, 1078, 1080, 1082, 1084, 1086, 1088, 1090, 1092, 1094, 1096, 1098, 1100, 1102, 1104, 1106, 1108, 1110, 1112, 1114, 1116] (by decide +kernel)
end
section
/-! THE GO LAYER. The world: all cells that were made since the law began, by number (cell k lies at G.1.size + k). S: their kinds; I, R, L: their ints, references (cell numbers), longs. -/
abbrev gm : Type := MethodName × ByteArray × Nat × Option FieldType
abbrev gS : Type := List (Nat × Nat)
abbrev gI : Type := Nat → Nat → Int32
abbrev gR : Type := Nat → Nat → Option Nat
abbrev gL : Type := Nat → Nat → Int64
/-- the ground: heap at the start, class numbers and slots, array classes, addresses of things outside, the script -/
abbrev gG : Type := Heap × va_G × (Nat → ClassId) × (Nat → Nat) × Nat × (Nat → Int32)
abbrev gQ : Type := Option Value → gS → gI → gR → gL → Prop
/-- the words that a method may count on -/
def g_t : List Cond := lw_tbl.filter goodWord
theorem g_in {w : Cond} (i : Nat) (h : lw_tbl[i]? = some w) (hg : goodWord w = true) : w ∈ g_t := List.mem_filter.mpr ⟨List.mem_of_getElem? h, hg⟩
/-- a value: cell numbers become addresses; 'float n' stands for the thing outside with number n -/
def cv (G : gG) : Value → Value
  | .ref k => .ref (G.1.size + k)
  | .float n => .ref (G.2.2.2.1 n.toNat)
  | .int x => .int x
  | .long x => .long x
  | .double x => .double x
  | .null => .null
  | .retAddr x => .retAddr x
theorem cv_cat (G : gG) (v : Value) : (cv G v).category = v.category := by cases v <;> rfl
theorem cv_cats (G : gG) (st : List Value) : ((st.map (cv G)).map fun v => v.category).sum = (st.map fun v => v.category).sum := by
  induction st with
  | nil => rfl
  | cons v t ih => simp only [List.map_cons, List.sum_cons, ih, cv_cat]
abbrev g_cl : List vw_C := [(RX0, TX0, 4), (RX1, TX1, 15), (RX2, TX2, 8), (RX3, TX3, 15), (RX4, TX4, 6), (RX5, TX5, 12), (RX6, TX6, 10), (RX7, TX7, 48)]
def g_ty : Nat → Nat → FieldType
  | 0 => tyX0 | 1 => tyX1 | 2 => tyX2 | 3 => tyX3 | 4 => tyX4 | 5 => tyX5 | 6 => tyX6 | _ => tyX7
/-- whether a field is a reference -/
def g_rt : FieldType → Bool
  | .object _ => true
  | .array _ => true
  | _ => false
def g_nf : Nat → Nat
  | 0 => 4 | 1 => 15 | 2 => 8 | 3 => 15 | 4 => 6 | 5 => 12 | 6 => 10 | 7 => 48 | _ => 0
theorem g_cls {ci : Nat} {r : vw_C} (h : g_cl[ci]? = some r) : (∀ w ∈ u_ws r.1 r.2.1 r.2.2, w ∈ lw_tbl) ∧ (∀ a, a < r.2.2 → ∀ b, b < r.2.2 → a ≠ b → (r.2.1 a).2.1 ≠ (r.2.1 b).2.1) ∧ (∀ k, k < r.2.2 → parseFieldDescriptor (r.2.1 k).2.2.1 = some (g_ty ci k)) ∧ r.2.2 = g_nf ci := by
  match ci, h with
  | 0, h => cases h; exact ⟨inX0, nmX0, tyX0_ok, rfl⟩
  | 1, h => cases h; exact ⟨inX1, nmX1, tyX1_ok, rfl⟩
  | 2, h => cases h; exact ⟨inX2, nmX2, tyX2_ok, rfl⟩
  | 3, h => cases h; exact ⟨inX3, nmX3, tyX3_ok, rfl⟩
  | 4, h => cases h; exact ⟨inX4, nmX4, tyX4_ok, rfl⟩
  | 5, h => cases h; exact ⟨inX5, nmX5, tyX5_ok, rfl⟩
  | 6, h => cases h; exact ⟨inX6, nmX6, tyX6_ok, rfl⟩
  | 7, h => cases h; exact ⟨inX7, nmX7, tyX7_ok, rfl⟩
  | k + 8, h => simp [g_cl] at h
theorem g_uws {C : String} {T : u_T} {N : Nat} (h : ∀ w ∈ u_ws C T N, w ∈ lw_tbl) : ∀ w ∈ u_ws C T N, w ∈ g_t := fun w hw => List.mem_filter.mpr ⟨h w hw, by
  obtain ⟨k, -, rfl⟩ := List.mem_map.mp hw
  unfold u_lay
  split <;> rfl⟩
/-- an object's field -/
def g_f (G : gG) (I : gI) (R : gR) (k ci j : Nat) : Value := if g_rt (g_ty ci j) = true then va_rf ((R k j).map (G.1.size + ·)) else .int (I k j)
/-- a cell of a kind: (0, class), (1, n) int[n], (2, n) byte[n], (3, n) long[n], (4, n) Scene[n], (5, n) Law[n] -/
def g_e (G : gG) (I : gI) (R : gR) (L : gL) (k : Nat) (x : Nat × Nat) : va_E := match x.1 with
  | 0 => .inr (x.2, (List.range (g_nf x.2)).map (g_f G I R k x.2))
  | 1 => .inl (G.2.2.1 0, x.2, .inl (I k))
  | 2 => .inl (G.2.2.1 1, x.2, .inl (I k))
  | 3 => .inl (G.2.2.1 2, x.2, .inr (.inl (L k)))
  | c + 4 => .inl (G.2.2.1 (c + 3), x.2, .inr (.inr (.inr (.inr (fun j => (R k j).map (G.1.size + ·))))))
def g_W (G : gG) (S : gS) (I : gI) (R : gR) (L : gL) : va_W := S.mapIdx (fun k x => (G.1.size + k, g_e G I R L k x))
def g_A (G : gG) : Nat → Prop := fun q => G.1.size ≤ q
theorem g_W_at {G : gG} {S : gS} {I : gI} {R : gR} {L : gL} {k : Nat} {x : Nat × Nat} (h : S[k]? = some x) : (g_W G S I R L)[k]? = some (G.1.size + k, g_e G I R L k x) := by
  simp [g_W, List.getElem?_mapIdx, h]
theorem g_W_of {G : gG} {S : gS} {I : gI} {R : gR} {L : gL} {k : Nat} {q : Nat × va_E} (h : (g_W G S I R L)[k]? = some q) : ∃ x, S[k]? = some x ∧ q = (G.1.size + k, g_e G I R L k x) := by
  simp only [g_W, List.getElem?_mapIdx] at h
  cases hx : S[k]? with
  | none => rw [hx] at h; cases h
  | some x => rw [hx] at h; exact ⟨x, rfl, (Option.some.inj h).symm⟩
theorem g_D {G : gG} {S : gS} {I : gI} {R : gR} {L : gL} : va_D (g_A G) (g_W G S I R L) := by
  refine ⟨fun i j p q hi hj h => ?_, fun k q h => ?_⟩
  · obtain ⟨x, -, rfl⟩ := g_W_of hi
    obtain ⟨y, -, rfl⟩ := g_W_of hj
    have h : G.1.size + i = G.1.size + j := h
    omega
  · obtain ⟨x, -, rfl⟩ := g_W_of h
    exact Nat.le_add_right _ _
/-- one cell set anew -/
theorem g_W_set {G : gG} {S : gS} {I I' : gI} {R R' : gR} {L L' : gL} {k : Nat} {x : Nat × Nat} (h : S[k]? = some x) (hI : ∀ c, c ≠ k → I' c = I c) (hR : ∀ c, c ≠ k → R' c = R c) (hL : ∀ c, c ≠ k → L' c = L c) : (g_W G S I R L).set k (G.1.size + k, g_e G I' R' L' k x) = g_W G S I' R' L' := by
  apply List.ext_getElem?
  intro j
  have hl : k < (g_W G S I R L).length := (List.getElem?_eq_some_iff.mp (g_W_at (G := G) (I := I) (R := R) (L := L) h)).1
  by_cases hj : j = k
  · subst hj
    rw [List.getElem?_set_self hl, g_W_at h]
  · rw [List.getElem?_set_ne (Ne.symm hj)]
    simp only [g_W, List.getElem?_mapIdx]
    cases S[j]? with
    | none => rfl
    | some y =>
      have e : g_e G I R L j y = g_e G I' R' L' j y := by
        obtain ⟨y1, y2⟩ := y
        unfold g_e
        have ef : g_f G I R j = g_f G I' R' j := by
          funext ci z
          simp only [g_f, hI j hj, hR j hj]
        match y1 with
        | 0 => simp only [ef]
        | 1 => simp only [hI j hj]
        | 2 => simp only [hI j hj]
        | 3 => simp only [hL j hj]
        | c + 4 => simp only [hR j hj]
      simp [e]
def g_tys (G : gG) : List (ClassId × FieldType) := [(G.2.2.1 0, .int), (G.2.2.1 1, .byte), (G.2.2.1 2, .long), (G.2.2.1 3, .object "SpoonScales$Scene"), (G.2.2.1 4, .object "SpoonScales$Law")]
def g_no : List Int32 := [255, 15, 3968]
def g_ch : List Int32 := [1, 0, 0, 0, 0, 0, 0, 1, 1, 0, 0, 0, 0, 0, 1, 2, 1, 0, 0, 0, 0, 1, 3, 3, 1, 0, 0, 0, 1, 4, 6, 4, 1, 0, 0, 1, 5, 10, 10, 5, 1, 0, 1, 6, 15, 20, 15, 6, 1]
def g_sn : List Nat := [129, 11]
def g_sb : List (List Int32) := [[101, 97, 116, 115, 32, 104, 111, 108, 100, 115, 32, 103, 117, 105, 108, 116, 121, 32, 115, 105, 116, 32, 115, 112, 111, 111, 110, 32, 106, 117, 100, 103, 101, 32, 102, 108, 105, 101, 115, 32, 97, 116, 32, 111, 102, 32, 111, 114, 32, 97, 110, 100, 32, 110, 111, 116, 32, 101, 97, 116, 101, 114, 32, 104, 117, 110, 103, 101, 114, 32, 115, 116, 111, 109, 97, 99, 104, 115, 32, 101, 97, 116, 101, 110, 32, 107, 105, 110, 100, 32, 108, 101, 102, 116, 32, 115, 112, 111, 111, 110, 115, 32, 115, 105, 100, 101, 32, 116, 105, 108, 116, 32, 104, 111, 110, 101, 121, 32, 115, 97, 108, 116, 32, 100, 101, 110, 116, 115, 32], [60, 62, 61, 35, 43, 45, 42, 47, 40, 41, 59]]
def g_s1 : String := "eats holds guilty sit spoon judge flies at of or and not eater hunger stomachs eaten kind left spoons side tilt honey salt dents "
def g_s2 : String := "<>=#+-*/();"
/-- the things outside: 0 the script, 1 NAMES_OF, 2 CHOOSE, 3 and 4 the two texts, 5 and 6 their bytes -/
def g_X (G : gG) (U : State) : Prop :=
  va_X (G.2.2.2.1 0) G.2.2.2.2.1 G.2.2.2.2.2 U G.1 ∧ G.2.2.2.1 0 < G.1.size ∧
  va_Z "SpoonScales" "NAMES_OF" "[I" (.ref (G.2.2.2.1 1)) (g_A G) U G.1 ∧ va_T .int (G.2.2.2.1 1) 3 (fun j => .int (g_no.getD j 0)) (g_A G) U G.1 ∧
  va_Z "SpoonScales" "CHOOSE" "[I" (.ref (G.2.2.2.1 2)) (g_A G) U G.1 ∧ va_T .int (G.2.2.2.1 2) 49 (fun j => .int (g_ch.getD j 0)) (g_A G) U G.1 ∧
  vk_R "SpoonScales$Reader" 75 g_s1 (G.2.2.2.1 3) U ∧ vk_R "SpoonScales$Reader" 90 g_s2 (G.2.2.2.1 4) U ∧
  vk_S 2 g_sn g_sb (fun i => G.2.2.2.1 (i + 3)) (fun i => G.2.2.2.1 (i + 5)) (g_A G) U G.1 ∧
  va_Z "java/lang/String" "COMPACT_STRINGS" "Z" (.int 1) (g_A G) U G.1 ∧
  va_Nw (.fieldLinkNest "SpoonScales$Reader" 166 "SpoonScales" "NAMES_OF" "[I" "SpoonScales") U ∧
  va_AO "SpoonScales$Scene" U ∧ va_AO "SpoonScales$Law" U
def g_K (G : gG) (U : State) : Prop := va_K G.2.1 g_cl (g_tys G) U ∧ g_X G U
theorem g_K.warm {G : gG} {s U : State} (hW : s.WarmedH U.vm) (h : g_K G s) : g_K G U := by
  obtain ⟨hK, h1, h2, h3, h4, h5, h6, h7, h8, h9, h10, h11, h12, h13⟩ := h
  have hv : s.vm.Alike U.vm := hW.alike
  exact ⟨va_K.moved hv hK, va_X.moved hv h1, h2, va_Z.moved hv h3, va_T.moved hv h4, va_Z.moved hv h5, va_T.moved hv h6, vk_R.warm hW h7, vk_R.warm hW h8, vk_S.moved hv h9, va_Z.moved hv h10, va_Nw.warmF hW h11, va_AO.moved hv h12, va_AO.moved hv h13⟩
theorem g_K.same {G : gG} {s U : State} (hv : U.vm = s.vm) (h : g_K G s) : g_K G U := by
  obtain ⟨hK, h1, h2, h3, h4, h5, h6, h7, h8, h9, h10, h11, h12, h13⟩ := h
  have hA : s.vm.Alike U.vm := by rw [hv]; exact Vm.Alike.refl _
  exact ⟨va_K.moved hA hK, va_X.moved hA h1, h2, va_Z.moved hA h3, va_T.moved hA h4, va_Z.moved hA h5, va_T.moved hA h6, vk_R.same hv h7, vk_R.same hv h8, vk_S.moved hA h9, va_Z.moved hA h10, va_Nw.same rfl hv.symm h11, va_AO.moved hA h12, va_AO.moved hA h13⟩
/-- locals -/
def g_L (G : gG) (lsA : Array Slot) (n : Nat) (ls : List (Option Value)) : Prop := lsA.size = n ∧ lv_wf lsA ∧ ∀ (k : Nat) (v : Value), ls[k]? = some (some v) → lsA[k]? = some (.val (cv G v))
def g_C (μ : gm) (G : gG) (p : Program) (s : State) (m : MethodId) (args : Array Value) (meth : Method) (c : Code) : Prop :=
  p.tables.exec = Jvm.exec ∧ c.code = μ.2.1 ∧ c.maxLocals = μ.2.2.1 ∧ meth.sig.returnType = μ.2.2.2 ∧ meth.locks = false ∧ s.vm.findClass μ.1.cls = some m.cls ∧ (∀ w ∈ g_t, w.before args s = true) ∧ meth.name = μ.1.name ∧ g_K G s ∧ va_S (g_A G) G.1 s.heap []
def g_q (G : gG) (Q : gQ) (mc : Nat) : Array Value → State → Outcome → State → Prop := fun _ s o t => ∃ (r : Option Value) (S : gS) (I : gI) (R : gR) (L : gL), o = .returned (r.map (cv G)) ∧ Q r S I R L ∧ va_P G.2.1 g_cl (g_W G S I R L) t.heap ∧ va_S (g_A G) G.1 t.heap [] ∧ s.heap.size + mc = G.1.size + S.length
def g_Z (μ : gm) (d rc rs : Nat) (ls : List (Option Value)) (S : gS) (I : gI) (R : gR) (L : gL) (G : gG) (p : Program) (RM : Room) (s : State) (m : MethodId) (args : Array Value) (meth : Method) (c : Code) (H : Heap) (locs : List Loc) (cells slots mc ms : Nat) (lsA : Array Slot) : Prop :=
  g_C μ G p s m args meth c ∧ (d ≤ RM.frames ∧ 64 * d ≤ RM.locals ∧ mc ≤ RM.cells ∧ ms ≤ RM.slots) ∧ (cells + rc = mc ∧ slots + rs ≤ ms ∧ s.heap.size + cells = G.1.size + S.length) ∧ va_P G.2.1 g_cl (g_W G S I R L) H ∧ va_S (g_A G) G.1 H locs ∧ g_L G lsA μ.2.2.1 ls
/-- from here, in this world, the method comes to its end with Q; d frames are left below it, rc cells and rs slots may be made yet -/
def Go (μ : gm) (d rc rs pc : Nat) (ls : List (Option Value)) (st : List Value) (S : gS) (I : gI) (R : gR) (L : gL) (Q : gQ) : Prop :=
  ∀ (l : Launch) (G : gG) (p : Program) (e : Env) (RM : Room) (s : State) (m : MethodId) (args : Array Value) (below : List Frame) (meth : Method) (c : Code) (H : Heap) (locs : List Loc) (cells slots mc ms : Nat) (lsA : Array Slot),
    g_Z μ d rc rs ls S I R L G p RM s m args meth c H locs cells slots mc ms lsA →
    W p l e RM s m args below meth c H locs cells slots (MQ below (g_q G Q mc) args s mc ms (g_A G)) (F0 m pc lsA (st.map (cv G)))
def g_w (μ : gm) : List Cond := Cond.code μ.1 μ.2.1 μ.2.2.1 μ.2.2.2 :: g_t
def g_P (G : gG) (as : List Value) (S : gS) (I : gI) (R : gR) (L : gL) : Array Value → State → Prop := fun v U => v = (as.map (cv G)).toArray ∧ U.heap.size = G.1.size + S.length ∧ va_P G.2.1 g_cl (g_W G S I R L) U.heap ∧ va_S (g_A G) G.1 U.heap [] ∧ g_K G U
/-- a method's contract: called in this world it comes back with Q -/
def Mt (μ : gm) (d rc rs : Nat) (as : List Value) (S : gS) (I : gI) (R : gR) (L : gL) (Q : gQ) : Prop :=
  ∀ (l : Launch) (G : gG), Met l μ.1 (g_w μ) { frames := d, cells := rc, slots := rs, locals := 64 * d } (g_P G as S I R L) (g_q G Q rc) rc rs (g_A G)
/-- the locals at the entry -/
def g_i : List Value → List (Option Value)
  | [] => []
  | v :: r => match v with
    | .long x => some (.long x) :: none :: g_i r
    | .double x => some (.double x) :: none :: g_i r
    | v => some v :: g_i r
def g_n (as : List Value) (n : Nat) : List (Option Value) := g_i as ++ List.replicate (n - (g_i as).length) none
theorem g_i_len (G : gG) (as : List Value) : (lg_sl (as.map (cv G))).length = (g_i as).length := by
  induction as with
  | nil => rfl
  | cons v t ih =>
    have e : lg_sl ((v :: t).map (cv G)) = (if (cv G v).category = 2 then [.val (cv G v), .second] else [.val (cv G v)]) ++ lg_sl (t.map (cv G)) := by simp [lg_sl]
    rw [e, List.length_append, ih]
    cases v <;> simp [g_i, cv, Value.category] <;> omega
theorem g_i_at (G : gG) (as : List Value) : ∀ (k : Nat) (v : Value), (g_i as)[k]? = some (some v) → (lg_sl (as.map (cv G)))[k]? = some (.val (cv G v)) := by
  induction as with
  | nil => intro k v h; simp [g_i] at h
  | cons a t ih =>
    intro k v h
    have e : lg_sl ((a :: t).map (cv G)) = (if (cv G a).category = 2 then [.val (cv G a), .second] else [.val (cv G a)]) ++ lg_sl (t.map (cv G)) := by simp [lg_sl]
    rw [e]
    cases a <;> simp only [g_i, cv, Value.category] at h ⊢ <;>
      (rcases k with _ | k
       · first | (simp at h; subst h; simp [cv]) | (simp at h)
       · first
         | (rcases k with _ | k
            · simp at h
            · simp at h; simpa [cv] using ih k v h)
         | (simp at h; simpa [cv] using ih k v h))
theorem go_start {μ : gm} {d rc rs : Nat} {as : List Value} {S : gS} {I : gI} {R : gR} {L : gL} {Q : gQ} {ls : List (Option Value)} (hp : plainName μ.1.cls = true) (hl : (g_i as).length ≤ μ.2.2.1) (he : g_n as μ.2.2.1 = ls) (k : Go μ d rc rs 0 ls [] S I R L Q) : Mt μ d rc rs as S I R L Q := by
  subst he
  intro l G
  refine Met.ofW (cc := μ.2.1) (maxL := μ.2.2.1) (ret := μ.2.2.2) (ws' := g_t) hp rfl ?_
  intro p e s m args below meth c s₁ B hml hv
  obtain ⟨rfl, hsz, hP, hS, hK⟩ := hv
  have hts := atoms_spec (ws := g_w μ) B.pre
  have hn := lv_entry (as.map (cv G)) (n := μ.2.2.1) (by rw [g_i_len]; exact hl)
  rw [lg_entry_eq]
  refine k l G p e _ s m _ below meth c s.heap [] 0 0 rc rs _ ⟨⟨B.exec, B.bytes, hml, B.returns, B.notSynchronized, findClass_of_methodNamed B.named, fun w hw => hts w (List.mem_cons_of_mem _ hw), (name_of_methodNamed B.named B.method).1, hK, hS⟩, ⟨Nat.le_refl _, Nat.le_refl _, Nat.le_refl _, Nat.le_refl _⟩, ⟨Nat.zero_add _, by omega, hsz⟩, hP, hS, hn.1, hn.2.1, fun i v hi => ?_⟩
  have hi2 : i < (g_i as).length := by
    rcases Nat.lt_or_ge i (g_i as).length with h | h
    · exact h
    · rw [g_n, List.getElem?_append_right h, List.getElem?_replicate] at hi
      split at hi <;> simp at hi
  rw [g_n, List.getElem?_append_left hi2] at hi
  have h3 := g_i_at G as i v hi
  rw [List.getElem?_toArray, List.getElem?_append_left (by rw [g_i_len]; exact hi2)]
  exact h3
end
section
section GR
variable {μ : gm} {d rc rs pc : Nat} {ls : List (Option Value)} {st : List Value} {S : gS} {I : gI} {R : gR} {L : gL} {Q : gQ}
theorem go_iconst {n : Int} {v : Int32} (hd : decode μ.2.1 pc = .ok (.iconst n, 1)) (hv : Int32.ofInt n = v) (kk : Go μ d rc rs (pc + 1) ls (.int v :: st) S I R L Q) : Go μ d rc rs pc ls st S I R L Q := by
  intro l G p e RM s m args below meth c H locs cells slots mc ms lsA Z
  exact lv_iconst Z.1.1 Z.1.2.1 hd hv (kk l G p e RM s m args below meth c H locs cells slots mc ms lsA Z)
theorem go_bipush {n : Int} {v : Int32} (hd : decode μ.2.1 pc = .ok (.bipush n, 2)) (hv : (Int8.ofInt n).toInt32 = v) (kk : Go μ d rc rs (pc + 2) ls (.int v :: st) S I R L Q) : Go μ d rc rs pc ls st S I R L Q := by
  intro l G p e RM s m args below meth c H locs cells slots mc ms lsA Z
  exact lv_bipush Z.1.1 Z.1.2.1 hd hv (kk l G p e RM s m args below meth c H locs cells slots mc ms lsA Z)
theorem go_sipush {n : Int} {v : Int32} (hd : decode μ.2.1 pc = .ok (.sipush n, 3)) (hv : (Int16.ofInt n).toInt32 = v) (kk : Go μ d rc rs (pc + 3) ls (.int v :: st) S I R L Q) : Go μ d rc rs pc ls st S I R L Q := by
  intro l G p e RM s m args below meth c H locs cells slots mc ms lsA Z
  exact lv_sipush Z.1.1 Z.1.2.1 hd hv (kk l G p e RM s m args below meth c H locs cells slots mc ms lsA Z)
theorem go_lconst {n : Fin 2} {v : Int64} (hd : decode μ.2.1 pc = .ok (.lconst n, 1)) (hv : Int64.ofNat (n : Nat) = v) (kk : Go μ d rc rs (pc + 1) ls (.long v :: st) S I R L Q) : Go μ d rc rs pc ls st S I R L Q := by
  intro l G p e RM s m args below meth c H locs cells slots mc ms lsA Z
  exact lv_lconst Z.1.1 Z.1.2.1 hd hv (kk l G p e RM s m args below meth c H locs cells slots mc ms lsA Z)
theorem go_null  (hd : decode μ.2.1 pc = .ok (.aconst_null, 1))  (kk : Go μ d rc rs (pc + 1) ls (.null :: st) S I R L Q) : Go μ d rc rs pc ls st S I R L Q := by
  intro l G p e RM s m args below meth c H locs cells slots mc ms lsA Z
  exact lv_null Z.1.1 Z.1.2.1 hd  (kk l G p e RM s m args below meth c H locs cells slots mc ms lsA Z)
theorem go_iadd {x y : Int32} (hd : decode μ.2.1 pc = .ok (.iadd, 1))  (kk : Go μ d rc rs (pc + 1) ls (.int (x + y) :: st) S I R L Q) : Go μ d rc rs pc ls (.int y :: .int x :: st) S I R L Q := by
  intro l G p e RM s m args below meth c H locs cells slots mc ms lsA Z
  exact lv_iadd Z.1.1 Z.1.2.1 hd  (kk l G p e RM s m args below meth c H locs cells slots mc ms lsA Z)
theorem go_isub {x y : Int32} (hd : decode μ.2.1 pc = .ok (.isub, 1))  (kk : Go μ d rc rs (pc + 1) ls (.int (x - y) :: st) S I R L Q) : Go μ d rc rs pc ls (.int y :: .int x :: st) S I R L Q := by
  intro l G p e RM s m args below meth c H locs cells slots mc ms lsA Z
  exact lv_isub Z.1.1 Z.1.2.1 hd  (kk l G p e RM s m args below meth c H locs cells slots mc ms lsA Z)
theorem go_imul {x y : Int32} (hd : decode μ.2.1 pc = .ok (.imul, 1))  (kk : Go μ d rc rs (pc + 1) ls (.int (x * y) :: st) S I R L Q) : Go μ d rc rs pc ls (.int y :: .int x :: st) S I R L Q := by
  intro l G p e RM s m args below meth c H locs cells slots mc ms lsA Z
  exact lv_imul Z.1.1 Z.1.2.1 hd  (kk l G p e RM s m args below meth c H locs cells slots mc ms lsA Z)
theorem go_iand {x y : Int32} (hd : decode μ.2.1 pc = .ok (.iand, 1))  (kk : Go μ d rc rs (pc + 1) ls (.int (x &&& y) :: st) S I R L Q) : Go μ d rc rs pc ls (.int y :: .int x :: st) S I R L Q := by
  intro l G p e RM s m args below meth c H locs cells slots mc ms lsA Z
  exact lv_iand Z.1.1 Z.1.2.1 hd  (kk l G p e RM s m args below meth c H locs cells slots mc ms lsA Z)
theorem go_ior {x y : Int32} (hd : decode μ.2.1 pc = .ok (.ior, 1))  (kk : Go μ d rc rs (pc + 1) ls (.int (x ||| y) :: st) S I R L Q) : Go μ d rc rs pc ls (.int y :: .int x :: st) S I R L Q := by
  intro l G p e RM s m args below meth c H locs cells slots mc ms lsA Z
  exact lv_ior Z.1.1 Z.1.2.1 hd  (kk l G p e RM s m args below meth c H locs cells slots mc ms lsA Z)
theorem go_ixor {x y : Int32} (hd : decode μ.2.1 pc = .ok (.ixor, 1))  (kk : Go μ d rc rs (pc + 1) ls (.int (x ^^^ y) :: st) S I R L Q) : Go μ d rc rs pc ls (.int y :: .int x :: st) S I R L Q := by
  intro l G p e RM s m args below meth c H locs cells slots mc ms lsA Z
  exact lv_ixor Z.1.1 Z.1.2.1 hd  (kk l G p e RM s m args below meth c H locs cells slots mc ms lsA Z)
theorem go_ishl {x y : Int32} (hd : decode μ.2.1 pc = .ok (.ishl, 1))  (kk : Go μ d rc rs (pc + 1) ls (.int (x <<< (y &&& 31)) :: st) S I R L Q) : Go μ d rc rs pc ls (.int y :: .int x :: st) S I R L Q := by
  intro l G p e RM s m args below meth c H locs cells slots mc ms lsA Z
  exact lv_ishl Z.1.1 Z.1.2.1 hd  (kk l G p e RM s m args below meth c H locs cells slots mc ms lsA Z)
theorem go_ishr {x y : Int32} (hd : decode μ.2.1 pc = .ok (.ishr, 1))  (kk : Go μ d rc rs (pc + 1) ls (.int (x >>> (y &&& 31)) :: st) S I R L Q) : Go μ d rc rs pc ls (.int y :: .int x :: st) S I R L Q := by
  intro l G p e RM s m args below meth c H locs cells slots mc ms lsA Z
  exact lv_ishr Z.1.1 Z.1.2.1 hd  (kk l G p e RM s m args below meth c H locs cells slots mc ms lsA Z)
theorem go_idiv {x y : Int32} (hd : decode μ.2.1 pc = .ok (.idiv, 1)) (hn : ¬ y = 0) (kk : Go μ d rc rs (pc + 1) ls (.int (x / y) :: st) S I R L Q) : Go μ d rc rs pc ls (.int y :: .int x :: st) S I R L Q := by
  intro l G p e RM s m args below meth c H locs cells slots mc ms lsA Z
  exact lv_idiv Z.1.1 Z.1.2.1 hd hn (kk l G p e RM s m args below meth c H locs cells slots mc ms lsA Z)
theorem go_irem {x y : Int32} (hd : decode μ.2.1 pc = .ok (.irem, 1)) (hn : ¬ y = 0) (kk : Go μ d rc rs (pc + 1) ls (.int (x - x / y * y) :: st) S I R L Q) : Go μ d rc rs pc ls (.int y :: .int x :: st) S I R L Q := by
  intro l G p e RM s m args below meth c H locs cells slots mc ms lsA Z
  exact lv_irem Z.1.1 Z.1.2.1 hd hn (kk l G p e RM s m args below meth c H locs cells slots mc ms lsA Z)
theorem go_ineg {x : Int32} (hd : decode μ.2.1 pc = .ok (.ineg, 1))  (kk : Go μ d rc rs (pc + 1) ls (.int (-x) :: st) S I R L Q) : Go μ d rc rs pc ls (.int x :: st) S I R L Q := by
  intro l G p e RM s m args below meth c H locs cells slots mc ms lsA Z
  exact lv_ineg Z.1.1 Z.1.2.1 hd  (kk l G p e RM s m args below meth c H locs cells slots mc ms lsA Z)
theorem go_iushr {x y : Int32} (hd : decode μ.2.1 pc = .ok (.iushr, 1))  (kk : Go μ d rc rs (pc + 1) ls (.int ((x.toUInt32 >>> (y.toUInt32 &&& Int32.toUInt32 31)).toInt32) :: st) S I R L Q) : Go μ d rc rs pc ls (.int y :: .int x :: st) S I R L Q := by
  intro l G p e RM s m args below meth c H locs cells slots mc ms lsA Z
  exact lv_iushr Z.1.1 Z.1.2.1 hd rfl (kk l G p e RM s m args below meth c H locs cells slots mc ms lsA Z)
theorem go_i2b {x : Int32} (hd : decode μ.2.1 pc = .ok (.i2b, 1))  (kk : Go μ d rc rs (pc + 1) ls (.int (x.toInt8.toInt32) :: st) S I R L Q) : Go μ d rc rs pc ls (.int x :: st) S I R L Q := by
  intro l G p e RM s m args below meth c H locs cells slots mc ms lsA Z
  exact lv_i2b Z.1.1 Z.1.2.1 hd rfl (kk l G p e RM s m args below meth c H locs cells slots mc ms lsA Z)
theorem go_i2c {x : Int32} (hd : decode μ.2.1 pc = .ok (.i2c, 1))  (kk : Go μ d rc rs (pc + 1) ls (.int ((x.toUInt32 % 65536).toInt32) :: st) S I R L Q) : Go μ d rc rs pc ls (.int x :: st) S I R L Q := by
  intro l G p e RM s m args below meth c H locs cells slots mc ms lsA Z
  exact lv_i2c Z.1.1 Z.1.2.1 hd rfl (kk l G p e RM s m args below meth c H locs cells slots mc ms lsA Z)
theorem go_i2l {x : Int32} (hd : decode μ.2.1 pc = .ok (.i2l, 1))  (kk : Go μ d rc rs (pc + 1) ls (.long (x.toInt64) :: st) S I R L Q) : Go μ d rc rs pc ls (.int x :: st) S I R L Q := by
  intro l G p e RM s m args below meth c H locs cells slots mc ms lsA Z
  exact lv_i2l Z.1.1 Z.1.2.1 hd rfl (kk l G p e RM s m args below meth c H locs cells slots mc ms lsA Z)
theorem go_l2i {x : Int64} (hd : decode μ.2.1 pc = .ok (.l2i, 1))  (kk : Go μ d rc rs (pc + 1) ls (.int (x.toInt32) :: st) S I R L Q) : Go μ d rc rs pc ls (.long x :: st) S I R L Q := by
  intro l G p e RM s m args below meth c H locs cells slots mc ms lsA Z
  exact lv_l2i Z.1.1 Z.1.2.1 hd rfl (kk l G p e RM s m args below meth c H locs cells slots mc ms lsA Z)
theorem go_ladd {x y : Int64} (hd : decode μ.2.1 pc = .ok (.ladd, 1))  (kk : Go μ d rc rs (pc + 1) ls (.long (x + y) :: st) S I R L Q) : Go μ d rc rs pc ls (.long y :: .long x :: st) S I R L Q := by
  intro l G p e RM s m args below meth c H locs cells slots mc ms lsA Z
  exact lv_ladd Z.1.1 Z.1.2.1 hd  (kk l G p e RM s m args below meth c H locs cells slots mc ms lsA Z)
theorem go_lsub {x y : Int64} (hd : decode μ.2.1 pc = .ok (.lsub, 1))  (kk : Go μ d rc rs (pc + 1) ls (.long (x - y) :: st) S I R L Q) : Go μ d rc rs pc ls (.long y :: .long x :: st) S I R L Q := by
  intro l G p e RM s m args below meth c H locs cells slots mc ms lsA Z
  exact lv_lsub Z.1.1 Z.1.2.1 hd  (kk l G p e RM s m args below meth c H locs cells slots mc ms lsA Z)
theorem go_lmul {x y : Int64} (hd : decode μ.2.1 pc = .ok (.lmul, 1))  (kk : Go μ d rc rs (pc + 1) ls (.long (x * y) :: st) S I R L Q) : Go μ d rc rs pc ls (.long y :: .long x :: st) S I R L Q := by
  intro l G p e RM s m args below meth c H locs cells slots mc ms lsA Z
  exact lv_lmul Z.1.1 Z.1.2.1 hd  (kk l G p e RM s m args below meth c H locs cells slots mc ms lsA Z)
theorem go_ldiv {x y : Int64} (hd : decode μ.2.1 pc = .ok (.ldiv, 1)) (hn : ¬ y = 0) (kk : Go μ d rc rs (pc + 1) ls (.long (x / y) :: st) S I R L Q) : Go μ d rc rs pc ls (.long y :: .long x :: st) S I R L Q := by
  intro l G p e RM s m args below meth c H locs cells slots mc ms lsA Z
  exact lv_ldiv Z.1.1 Z.1.2.1 hd hn (kk l G p e RM s m args below meth c H locs cells slots mc ms lsA Z)
theorem go_lrem {x y : Int64} (hd : decode μ.2.1 pc = .ok (.lrem, 1)) (hn : ¬ y = 0) (kk : Go μ d rc rs (pc + 1) ls (.long (x - x / y * y) :: st) S I R L Q) : Go μ d rc rs pc ls (.long y :: .long x :: st) S I R L Q := by
  intro l G p e RM s m args below meth c H locs cells slots mc ms lsA Z
  exact lv_lrem Z.1.1 Z.1.2.1 hd hn (kk l G p e RM s m args below meth c H locs cells slots mc ms lsA Z)
theorem go_lneg {x : Int64} (hd : decode μ.2.1 pc = .ok (.lneg, 1))  (kk : Go μ d rc rs (pc + 1) ls (.long (-x) :: st) S I R L Q) : Go μ d rc rs pc ls (.long x :: st) S I R L Q := by
  intro l G p e RM s m args below meth c H locs cells slots mc ms lsA Z
  exact lv_lneg Z.1.1 Z.1.2.1 hd  (kk l G p e RM s m args below meth c H locs cells slots mc ms lsA Z)
theorem go_lcmp {x y : Int64} (hd : decode μ.2.1 pc = .ok (.lcmp, 1))  (kk : Go μ d rc rs (pc + 1) ls (.int (lg_cmp x y) :: st) S I R L Q) : Go μ d rc rs pc ls (.long y :: .long x :: st) S I R L Q := by
  intro l G p e RM s m args below meth c H locs cells slots mc ms lsA Z
  exact W.lcmp Z.1.1 Z.1.2.1 hd  (kk l G p e RM s m args below meth c H locs cells slots mc ms lsA Z)
theorem go_dup {v : Value} (hd : decode μ.2.1 pc = .ok (.dup, 1)) (hv : v.category = 1) (kk : Go μ d rc rs (pc + 1) ls (v :: v :: st) S I R L Q) : Go μ d rc rs pc ls (v :: st) S I R L Q := by
  intro l G p e RM s m args below meth c H locs cells slots mc ms lsA Z
  exact lv_dup Z.1.1 Z.1.2.1 hd (by rw [cv_cat]; exact hv) (kk l G p e RM s m args below meth c H locs cells slots mc ms lsA Z)
theorem go_dup2 {v w : Value} (hd : decode μ.2.1 pc = .ok (.dup2, 1)) (hv : v.category = 1) (hw : w.category = 1) (kk : Go μ d rc rs (pc + 1) ls (v :: w :: v :: w :: st) S I R L Q) : Go μ d rc rs pc ls (v :: w :: st) S I R L Q := by
  intro l G p e RM s m args below meth c H locs cells slots mc ms lsA Z
  exact lv_dup2_11 Z.1.1 Z.1.2.1 hd (by rw [cv_cat]; exact hv) (by rw [cv_cat]; exact hw) (kk l G p e RM s m args below meth c H locs cells slots mc ms lsA Z)
theorem go_pop {v : Value} (hd : decode μ.2.1 pc = .ok (.pop, 1)) (hv : v.category = 1) (kk : Go μ d rc rs (pc + 1) ls st S I R L Q) : Go μ d rc rs pc ls (v :: st) S I R L Q := by
  intro l G p e RM s m args below meth c H locs cells slots mc ms lsA Z
  exact lv_pop Z.1.1 Z.1.2.1 hd (by rw [cv_cat]; exact hv) (kk l G p e RM s m args below meth c H locs cells slots mc ms lsA Z)
theorem go_if_eq {x : Int32} {off : Int} (tgt : Nat) (hd : decode μ.2.1 pc = .ok (.ifCond .eq off, 3)) (ht : (pc : Int) + off = (tgt : Int)) (kt : x = 0 → Go μ d rc rs tgt ls st S I R L Q) (kf : ¬ x = 0 → Go μ d rc rs (pc + 3) ls st S I R L Q) : Go μ d rc rs pc ls (.int x :: st) S I R L Q := by
  intro l G p e RM s m args below meth c H locs cells slots mc ms lsA Z
  exact lv_if_eq Z.1.1 Z.1.2.1 hd ht (fun h => (kt h l G p e RM s m args below meth c H locs cells slots mc ms lsA Z)) (fun h => (kf h l G p e RM s m args below meth c H locs cells slots mc ms lsA Z))
theorem go_if_ne {x : Int32} {off : Int} (tgt : Nat) (hd : decode μ.2.1 pc = .ok (.ifCond .ne off, 3)) (ht : (pc : Int) + off = (tgt : Int)) (kt : ¬ x = 0 → Go μ d rc rs tgt ls st S I R L Q) (kf : x = 0 → Go μ d rc rs (pc + 3) ls st S I R L Q) : Go μ d rc rs pc ls (.int x :: st) S I R L Q := by
  intro l G p e RM s m args below meth c H locs cells slots mc ms lsA Z
  exact lv_if_ne Z.1.1 Z.1.2.1 hd ht (fun h => (kt h l G p e RM s m args below meth c H locs cells slots mc ms lsA Z)) (fun h => (kf h l G p e RM s m args below meth c H locs cells slots mc ms lsA Z))
theorem go_if_lt {x : Int32} {off : Int} (tgt : Nat) (hd : decode μ.2.1 pc = .ok (.ifCond .lt off, 3)) (ht : (pc : Int) + off = (tgt : Int)) (kt : x < 0 → Go μ d rc rs tgt ls st S I R L Q) (kf : ¬ x < 0 → Go μ d rc rs (pc + 3) ls st S I R L Q) : Go μ d rc rs pc ls (.int x :: st) S I R L Q := by
  intro l G p e RM s m args below meth c H locs cells slots mc ms lsA Z
  exact lv_if_lt Z.1.1 Z.1.2.1 hd ht (fun h => (kt h l G p e RM s m args below meth c H locs cells slots mc ms lsA Z)) (fun h => (kf h l G p e RM s m args below meth c H locs cells slots mc ms lsA Z))
theorem go_if_ge {x : Int32} {off : Int} (tgt : Nat) (hd : decode μ.2.1 pc = .ok (.ifCond .ge off, 3)) (ht : (pc : Int) + off = (tgt : Int)) (kt : 0 ≤ x → Go μ d rc rs tgt ls st S I R L Q) (kf : ¬ 0 ≤ x → Go μ d rc rs (pc + 3) ls st S I R L Q) : Go μ d rc rs pc ls (.int x :: st) S I R L Q := by
  intro l G p e RM s m args below meth c H locs cells slots mc ms lsA Z
  exact lv_if_ge Z.1.1 Z.1.2.1 hd ht (fun h => (kt h l G p e RM s m args below meth c H locs cells slots mc ms lsA Z)) (fun h => (kf h l G p e RM s m args below meth c H locs cells slots mc ms lsA Z))
theorem go_if_gt {x : Int32} {off : Int} (tgt : Nat) (hd : decode μ.2.1 pc = .ok (.ifCond .gt off, 3)) (ht : (pc : Int) + off = (tgt : Int)) (kt : 0 < x → Go μ d rc rs tgt ls st S I R L Q) (kf : ¬ 0 < x → Go μ d rc rs (pc + 3) ls st S I R L Q) : Go μ d rc rs pc ls (.int x :: st) S I R L Q := by
  intro l G p e RM s m args below meth c H locs cells slots mc ms lsA Z
  exact lv_if_gt Z.1.1 Z.1.2.1 hd ht (fun h => (kt h l G p e RM s m args below meth c H locs cells slots mc ms lsA Z)) (fun h => (kf h l G p e RM s m args below meth c H locs cells slots mc ms lsA Z))
theorem go_if_le {x : Int32} {off : Int} (tgt : Nat) (hd : decode μ.2.1 pc = .ok (.ifCond .le off, 3)) (ht : (pc : Int) + off = (tgt : Int)) (kt : x ≤ 0 → Go μ d rc rs tgt ls st S I R L Q) (kf : ¬ x ≤ 0 → Go μ d rc rs (pc + 3) ls st S I R L Q) : Go μ d rc rs pc ls (.int x :: st) S I R L Q := by
  intro l G p e RM s m args below meth c H locs cells slots mc ms lsA Z
  exact lv_if_le Z.1.1 Z.1.2.1 hd ht (fun h => (kt h l G p e RM s m args below meth c H locs cells slots mc ms lsA Z)) (fun h => (kf h l G p e RM s m args below meth c H locs cells slots mc ms lsA Z))
theorem go_icmp_eq {x y : Int32} {off : Int} (tgt : Nat) (hd : decode μ.2.1 pc = .ok (.if_icmp .eq off, 3)) (ht : (pc : Int) + off = (tgt : Int)) (kt : x = y → Go μ d rc rs tgt ls st S I R L Q) (kf : ¬ x = y → Go μ d rc rs (pc + 3) ls st S I R L Q) : Go μ d rc rs pc ls (.int y :: .int x :: st) S I R L Q := by
  intro l G p e RM s m args below meth c H locs cells slots mc ms lsA Z
  exact lv_icmp_eq Z.1.1 Z.1.2.1 hd ht (fun h => (kt h l G p e RM s m args below meth c H locs cells slots mc ms lsA Z)) (fun h => (kf h l G p e RM s m args below meth c H locs cells slots mc ms lsA Z))
theorem go_icmp_ne {x y : Int32} {off : Int} (tgt : Nat) (hd : decode μ.2.1 pc = .ok (.if_icmp .ne off, 3)) (ht : (pc : Int) + off = (tgt : Int)) (kt : ¬ x = y → Go μ d rc rs tgt ls st S I R L Q) (kf : x = y → Go μ d rc rs (pc + 3) ls st S I R L Q) : Go μ d rc rs pc ls (.int y :: .int x :: st) S I R L Q := by
  intro l G p e RM s m args below meth c H locs cells slots mc ms lsA Z
  exact lv_icmp_ne Z.1.1 Z.1.2.1 hd ht (fun h => (kt h l G p e RM s m args below meth c H locs cells slots mc ms lsA Z)) (fun h => (kf h l G p e RM s m args below meth c H locs cells slots mc ms lsA Z))
theorem go_icmp_lt {x y : Int32} {off : Int} (tgt : Nat) (hd : decode μ.2.1 pc = .ok (.if_icmp .lt off, 3)) (ht : (pc : Int) + off = (tgt : Int)) (kt : x < y → Go μ d rc rs tgt ls st S I R L Q) (kf : ¬ x < y → Go μ d rc rs (pc + 3) ls st S I R L Q) : Go μ d rc rs pc ls (.int y :: .int x :: st) S I R L Q := by
  intro l G p e RM s m args below meth c H locs cells slots mc ms lsA Z
  exact lv_icmp_lt Z.1.1 Z.1.2.1 hd ht (fun h => (kt h l G p e RM s m args below meth c H locs cells slots mc ms lsA Z)) (fun h => (kf h l G p e RM s m args below meth c H locs cells slots mc ms lsA Z))
theorem go_icmp_ge {x y : Int32} {off : Int} (tgt : Nat) (hd : decode μ.2.1 pc = .ok (.if_icmp .ge off, 3)) (ht : (pc : Int) + off = (tgt : Int)) (kt : y ≤ x → Go μ d rc rs tgt ls st S I R L Q) (kf : ¬ y ≤ x → Go μ d rc rs (pc + 3) ls st S I R L Q) : Go μ d rc rs pc ls (.int y :: .int x :: st) S I R L Q := by
  intro l G p e RM s m args below meth c H locs cells slots mc ms lsA Z
  exact lv_icmp_ge Z.1.1 Z.1.2.1 hd ht (fun h => (kt h l G p e RM s m args below meth c H locs cells slots mc ms lsA Z)) (fun h => (kf h l G p e RM s m args below meth c H locs cells slots mc ms lsA Z))
theorem go_icmp_gt {x y : Int32} {off : Int} (tgt : Nat) (hd : decode μ.2.1 pc = .ok (.if_icmp .gt off, 3)) (ht : (pc : Int) + off = (tgt : Int)) (kt : y < x → Go μ d rc rs tgt ls st S I R L Q) (kf : ¬ y < x → Go μ d rc rs (pc + 3) ls st S I R L Q) : Go μ d rc rs pc ls (.int y :: .int x :: st) S I R L Q := by
  intro l G p e RM s m args below meth c H locs cells slots mc ms lsA Z
  exact lv_icmp_gt Z.1.1 Z.1.2.1 hd ht (fun h => (kt h l G p e RM s m args below meth c H locs cells slots mc ms lsA Z)) (fun h => (kf h l G p e RM s m args below meth c H locs cells slots mc ms lsA Z))
theorem go_icmp_le {x y : Int32} {off : Int} (tgt : Nat) (hd : decode μ.2.1 pc = .ok (.if_icmp .le off, 3)) (ht : (pc : Int) + off = (tgt : Int)) (kt : x ≤ y → Go μ d rc rs tgt ls st S I R L Q) (kf : ¬ x ≤ y → Go μ d rc rs (pc + 3) ls st S I R L Q) : Go μ d rc rs pc ls (.int y :: .int x :: st) S I R L Q := by
  intro l G p e RM s m args below meth c H locs cells slots mc ms lsA Z
  exact lv_icmp_le Z.1.1 Z.1.2.1 hd ht (fun h => (kt h l G p e RM s m args below meth c H locs cells slots mc ms lsA Z)) (fun h => (kf h l G p e RM s m args below meth c H locs cells slots mc ms lsA Z))
theorem go_goto {off : Int} (tgt : Nat) (hd : decode μ.2.1 pc = .ok (.goto off, 3)) (ht : (pc : Int) + off = (tgt : Int)) (kk : Go μ d rc rs tgt ls st S I R L Q) : Go μ d rc rs pc ls st S I R L Q := by
  intro l G p e RM s m args below meth c H locs cells slots mc ms lsA Z
  exact lv_goto Z.1.1 Z.1.2.1 hd ht (kk l G p e RM s m args below meth c H locs cells slots mc ms lsA Z)
theorem go_ifnull_r {a : Nat} {off : Int} (hd : decode μ.2.1 pc = .ok (.ifnull off, 3)) (kk : Go μ d rc rs (pc + 3) ls st S I R L Q) : Go μ d rc rs pc ls (.ref a :: st) S I R L Q := by
  intro l G p e RM s m args below meth c H locs cells slots mc ms lsA Z
  exact lv_ifnull Z.1.1 Z.1.2.1 hd (kk l G p e RM s m args below meth c H locs cells slots mc ms lsA Z)
theorem go_ifnull_n {off : Int} (tgt : Nat) (hd : decode μ.2.1 pc = .ok (.ifnull off, 3)) (ht : (pc : Int) + off = (tgt : Int)) (kk : Go μ d rc rs tgt ls st S I R L Q) : Go μ d rc rs pc ls (.null :: st) S I R L Q := by
  intro l G p e RM s m args below meth c H locs cells slots mc ms lsA Z
  exact lv_ifnullN Z.1.1 Z.1.2.1 hd ht (kk l G p e RM s m args below meth c H locs cells slots mc ms lsA Z)
theorem go_ifnonnull_r {a : Nat} {off : Int} (tgt : Nat) (hd : decode μ.2.1 pc = .ok (.ifnonnull off, 3)) (ht : (pc : Int) + off = (tgt : Int)) (kk : Go μ d rc rs tgt ls st S I R L Q) : Go μ d rc rs pc ls (.ref a :: st) S I R L Q := by
  intro l G p e RM s m args below meth c H locs cells slots mc ms lsA Z
  exact lv_ifnonnull Z.1.1 Z.1.2.1 hd ht (kk l G p e RM s m args below meth c H locs cells slots mc ms lsA Z)
theorem go_ifnonnull_n {off : Int} (hd : decode μ.2.1 pc = .ok (.ifnonnull off, 3)) (kk : Go μ d rc rs (pc + 3) ls st S I R L Q) : Go μ d rc rs pc ls (.null :: st) S I R L Q := by
  intro l G p e RM s m args below meth c H locs cells slots mc ms lsA Z
  exact lv_ifnonnullN Z.1.1 Z.1.2.1 hd (kk l G p e RM s m args below meth c H locs cells slots mc ms lsA Z)
theorem go_tsOut {dflt lo hi : Int} {offs : Array Int} {len : Nat} {x : Int32} (tgt : Nat) (hd : decode μ.2.1 pc = .ok (.tableswitch dflt lo hi offs, len)) (h : x.toInt < lo ∨ hi < x.toInt) (ht : (pc : Int) + dflt = (tgt : Int)) (kk : Go μ d rc rs tgt ls st S I R L Q) : Go μ d rc rs pc ls (.int x :: st) S I R L Q := by
  intro l G p e RM s m args below meth c H locs cells slots mc ms lsA Z
  exact lv_tableOut Z.1.1 Z.1.2.1 hd h ht (kk l G p e RM s m args below meth c H locs cells slots mc ms lsA Z)
theorem go_tsIn {dflt lo hi : Int} {offs : Array Int} {len : Nat} {x : Int32} {off : Int} (tgt : Nat) (hd : decode μ.2.1 pc = .ok (.tableswitch dflt lo hi offs, len)) (h1 : ¬ x.toInt < lo) (h2 : ¬ hi < x.toInt) (ho : offs[(x.toInt - lo).toNat]? = some off) (ht : (pc : Int) + off = (tgt : Int)) (kk : Go μ d rc rs tgt ls st S I R L Q) : Go μ d rc rs pc ls (.int x :: st) S I R L Q := by
  intro l G p e RM s m args below meth c H locs cells slots mc ms lsA Z
  exact lv_tableIn Z.1.1 Z.1.2.1 hd h1 h2 ho ht (kk l G p e RM s m args below meth c H locs cells slots mc ms lsA Z)
theorem go_ls {dflt : Int} {ps : Array (Int × Int)} {len : Nat} {x : Int32} {off : Int} (tgt : Nat) (hd : decode μ.2.1 pc = .ok (.lookupswitch dflt ps, len)) (hp : (ps.toList.zip (ps.toList.drop 1)).all (fun (a, next) => a.1 < next.1) = true) (ho : Op.lookupswitch.offset ps.toList dflt x.toInt = off) (ht : (pc : Int) + off = (tgt : Int)) (kk : Go μ d rc rs tgt ls st S I R L Q) : Go μ d rc rs pc ls (.int x :: st) S I R L Q := by
  intro l G p e RM s m args below meth c H locs cells slots mc ms lsA Z
  exact lv_lookup Z.1.1 Z.1.2.1 hd hp ho ht (kk l G p e RM s m args below meth c H locs cells slots mc ms lsA Z)
theorem go_ldc {idx : Nat} {v : Int32} (hw : Cond.constant μ.1.cls idx v ∈ g_t) (hd : decode μ.2.1 pc = .ok (.ldc idx, 2)) (kk : Go μ d rc rs (pc + 2) ls (.int v :: st) S I R L Q) : Go μ d rc rs pc ls st S I R L Q := by
  intro l G p e RM s m args below meth c H locs cells slots mc ms lsA Z
  exact lv_ldc Z.1.1 Z.1.2.1 Z.1.2.2.2.2.2.1 (Z.1.2.2.2.2.2.2.1 _ hw) hd (kk l G p e RM s m args below meth c H locs cells slots mc ms lsA Z)
theorem go_ldcw {idx : Nat} {v : Int32} (hw : Cond.constant μ.1.cls idx v ∈ g_t) (hd : decode μ.2.1 pc = .ok (.ldc_w idx, 3)) (kk : Go μ d rc rs (pc + 3) ls (.int v :: st) S I R L Q) : Go μ d rc rs pc ls st S I R L Q := by
  intro l G p e RM s m args below meth c H locs cells slots mc ms lsA Z
  exact lv_ldcw Z.1.1 Z.1.2.1 Z.1.2.2.2.2.2.1 (Z.1.2.2.2.2.2.2.1 _ hw) hd (kk l G p e RM s m args below meth c H locs cells slots mc ms lsA Z)
theorem go_ldc2 {idx : Nat} {v : Int64} (hw : Cond.constantLong μ.1.cls idx v ∈ g_t) (hd : decode μ.2.1 pc = .ok (.ldc2_w idx, 3)) (kk : Go μ d rc rs (pc + 3) ls (.long v :: st) S I R L Q) : Go μ d rc rs pc ls st S I R L Q := by
  intro l G p e RM s m args below meth c H locs cells slots mc ms lsA Z
  exact lv_ldc2 Z.1.1 Z.1.2.1 Z.1.2.2.2.2.2.1 (Z.1.2.2.2.2.2.2.1 _ hw) hd (kk l G p e RM s m args below meth c H locs cells slots mc ms lsA Z)
theorem go_iload_n {k : Fin 4} {x : Int32} (hd : decode μ.2.1 pc = .ok (.iload_n k, 1)) (hx : ls[(k : Nat)]? = some (some (.int x))) (kk : Go μ d rc rs (pc + 1) ls (.int x :: st) S I R L Q) : Go μ d rc rs pc ls st S I R L Q := by
  intro l G p e RM s m args below meth c H locs cells slots mc ms lsA Z
  exact lv_iload_n Z.1.1 Z.1.2.1 hd rfl (Z.2.2.2.2.2.2.2 _ _ hx) (kk l G p e RM s m args below meth c H locs cells slots mc ms lsA Z)
theorem go_iload {i : Nat} {x : Int32} (hd : decode μ.2.1 pc = .ok (.iload i, 2)) (hx : ls[i]? = some (some (.int x))) (kk : Go μ d rc rs (pc + 2) ls (.int x :: st) S I R L Q) : Go μ d rc rs pc ls st S I R L Q := by
  intro l G p e RM s m args below meth c H locs cells slots mc ms lsA Z
  exact lv_iload Z.1.1 Z.1.2.1 hd (Z.2.2.2.2.2.2.2 _ _ hx) (kk l G p e RM s m args below meth c H locs cells slots mc ms lsA Z)
theorem go_lload_n {k : Fin 4} {x : Int64} (hd : decode μ.2.1 pc = .ok (.lload_n k, 1)) (hx : ls[(k : Nat)]? = some (some (.long x))) (kk : Go μ d rc rs (pc + 1) ls (.long x :: st) S I R L Q) : Go μ d rc rs pc ls st S I R L Q := by
  intro l G p e RM s m args below meth c H locs cells slots mc ms lsA Z
  exact lv_lload_n Z.1.1 Z.1.2.1 hd rfl (Z.2.2.2.2.2.2.2 _ _ hx) (kk l G p e RM s m args below meth c H locs cells slots mc ms lsA Z)
theorem go_lload {i : Nat} {x : Int64} (hd : decode μ.2.1 pc = .ok (.lload i, 2)) (hx : ls[i]? = some (some (.long x))) (kk : Go μ d rc rs (pc + 2) ls (.long x :: st) S I R L Q) : Go μ d rc rs pc ls st S I R L Q := by
  intro l G p e RM s m args below meth c H locs cells slots mc ms lsA Z
  exact lv_lload Z.1.1 Z.1.2.1 hd (Z.2.2.2.2.2.2.2 _ _ hx) (kk l G p e RM s m args below meth c H locs cells slots mc ms lsA Z)
theorem go_aload_n {k : Fin 4} {x : Nat} (hd : decode μ.2.1 pc = .ok (.aload_n k, 1)) (hx : ls[(k : Nat)]? = some (some (.ref x))) (kk : Go μ d rc rs (pc + 1) ls (.ref x :: st) S I R L Q) : Go μ d rc rs pc ls st S I R L Q := by
  intro l G p e RM s m args below meth c H locs cells slots mc ms lsA Z
  exact lv_aload_n Z.1.1 Z.1.2.1 hd rfl (Z.2.2.2.2.2.2.2 _ _ hx) (kk l G p e RM s m args below meth c H locs cells slots mc ms lsA Z)
theorem go_aload {i : Nat} {x : Nat} (hd : decode μ.2.1 pc = .ok (.aload i, 2)) (hx : ls[i]? = some (some (.ref x))) (kk : Go μ d rc rs (pc + 2) ls (.ref x :: st) S I R L Q) : Go μ d rc rs pc ls st S I R L Q := by
  intro l G p e RM s m args below meth c H locs cells slots mc ms lsA Z
  exact lv_aload Z.1.1 Z.1.2.1 hd (Z.2.2.2.2.2.2.2 _ _ hx) (kk l G p e RM s m args below meth c H locs cells slots mc ms lsA Z)
theorem go_aloadX_n {k : Fin 4} {x : UInt32} (hd : decode μ.2.1 pc = .ok (.aload_n k, 1)) (hx : ls[(k : Nat)]? = some (some (.float x))) (kk : Go μ d rc rs (pc + 1) ls (.float x :: st) S I R L Q) : Go μ d rc rs pc ls st S I R L Q := by
  intro l G p e RM s m args below meth c H locs cells slots mc ms lsA Z
  exact lv_aload_n Z.1.1 Z.1.2.1 hd rfl (Z.2.2.2.2.2.2.2 _ _ hx) (kk l G p e RM s m args below meth c H locs cells slots mc ms lsA Z)
theorem go_aloadX {i : Nat} {x : UInt32} (hd : decode μ.2.1 pc = .ok (.aload i, 2)) (hx : ls[i]? = some (some (.float x))) (kk : Go μ d rc rs (pc + 2) ls (.float x :: st) S I R L Q) : Go μ d rc rs pc ls st S I R L Q := by
  intro l G p e RM s m args below meth c H locs cells slots mc ms lsA Z
  exact lv_aload Z.1.1 Z.1.2.1 hd (Z.2.2.2.2.2.2.2 _ _ hx) (kk l G p e RM s m args below meth c H locs cells slots mc ms lsA Z)
theorem go_aloadN_n {k : Fin 4} (hd : decode μ.2.1 pc = .ok (.aload_n k, 1)) (hx : ls[(k : Nat)]? = some (some .null)) (kk : Go μ d rc rs (pc + 1) ls (.null :: st) S I R L Q) : Go μ d rc rs pc ls st S I R L Q := by
  intro l G p e RM s m args below meth c H locs cells slots mc ms lsA Z
  exact lv_aload_nN Z.1.1 Z.1.2.1 hd rfl (Z.2.2.2.2.2.2.2 _ _ hx) (kk l G p e RM s m args below meth c H locs cells slots mc ms lsA Z)
/-- the place ahead isn't the first half of a long -/
def g_ok (ls : List (Option Value)) : Nat → Bool
  | 0 => true
  | j + 1 => match ls[j]? with
    | some (some (.long _)) => false
    | some (some (.double _)) => false
    | _ => true
def g_pr (G : gG) (ls : List (Option Value)) : List (Nat × Value) := (List.range ls.length).filterMap (fun k => match ls[k]? with
  | some (some v) => some (k, cv G v)
  | _ => none)
theorem g_pr_mem {G : gG} {ls : List (Option Value)} {q : Nat × Value} : q ∈ g_pr G ls ↔ ∃ v, ls[q.1]? = some (some v) ∧ q.2 = cv G v := by
  obtain ⟨i, w⟩ := q
  simp only [g_pr, List.mem_filterMap, List.mem_range]
  constructor
  · rintro ⟨k, hk, h⟩
    split at h
    · rename_i v hv
      simp only [Option.some.injEq, Prod.mk.injEq] at h
      obtain ⟨rfl, rfl⟩ := h
      exact ⟨v, hv, rfl⟩
    · cases h
  · rintro ⟨v, hv, rfl⟩
    refine ⟨i, (List.getElem?_eq_some_iff.mp hv).1, ?_⟩
    simp [hv]
theorem g_L_has {G : gG} {lsA : Array Slot} {n : Nat} {ls : List (Option Value)} (h : g_L G lsA n ls) : lv_has lsA n (g_pr G ls) := by
  refine ⟨h.1, h.2.1, fun q hq => ?_⟩
  obtain ⟨v, hv, e⟩ := g_pr_mem.mp hq
  rw [e]
  exact h.2.2 _ _ hv
theorem g_L_st1 {G : gG} {lsA : Array Slot} {n i : Nat} {ls : List (Option Value)} {v : Value} (ho : g_ok ls i = true) (h : lv_has lsA n ((i, cv G v) :: (g_pr G ls).filter (fun q => !(q.1 == i) && !(q.1 + 1 == i && q.2.category == 2)))) : g_L G lsA n (ls.set i (some v)) := by
  refine ⟨h.1, h.2.1, fun k w hk => ?_⟩
  by_cases hki : k = i
  · subst hki
    have hl : k < (ls.set k (some v)).length := (List.getElem?_eq_some_iff.mp hk).1
    rw [List.length_set] at hl
    rw [List.getElem?_set_self hl] at hk
    cases hk
    exact h.2.2 (k, cv G v) List.mem_cons_self
  · rw [List.getElem?_set_ne (Ne.symm hki)] at hk
    refine h.2.2 (k, cv G w) (List.mem_cons_of_mem _ (List.mem_filter.mpr ⟨g_pr_mem.mpr ⟨w, hk, rfl⟩, ?_⟩))
    have h1 : ¬ (k + 1 = i ∧ (cv G w).category = 2) := by
      rintro ⟨e1, e2⟩
      subst e1
      rw [cv_cat] at e2
      simp only [g_ok, hk] at ho
      cases w <;> simp_all [Value.category]
    simp only [Bool.and_eq_true, Bool.not_eq_true', beq_eq_false_iff_ne, ne_eq, Bool.and_eq_false_iff]
    refine ⟨hki, ?_⟩
    by_cases e1 : k + 1 = i
    · exact Or.inr (fun e2 => h1 ⟨e1, e2⟩)
    · exact Or.inl e1
theorem g_L_st2 {G : gG} {lsA : Array Slot} {n i : Nat} {ls : List (Option Value)} {v : Value} (ho : g_ok ls i = true) (h : lv_has lsA n ((i, cv G v) :: (g_pr G ls).filter (fun q => !(q.1 == i) && (!(q.1 == i + 1) && !(q.1 + 1 == i && q.2.category == 2))))) : g_L G lsA n ((ls.set i (some v)).set (i + 1) none) := by
  refine ⟨h.1, h.2.1, fun k w hk => ?_⟩
  by_cases hk2 : k = i + 1
  · subst hk2
    rw [List.getElem?_set] at hk
    split at hk
    · split at hk <;> simp at hk
    · rename_i hne
      exact absurd rfl hne
  rw [List.getElem?_set_ne (Ne.symm hk2)] at hk
  by_cases hki : k = i
  · subst hki
    have hl : k < (ls.set k (some v)).length := (List.getElem?_eq_some_iff.mp hk).1
    rw [List.length_set] at hl
    rw [List.getElem?_set_self hl] at hk
    cases hk
    exact h.2.2 (k, cv G v) List.mem_cons_self
  · rw [List.getElem?_set_ne (Ne.symm hki)] at hk
    refine h.2.2 (k, cv G w) (List.mem_cons_of_mem _ (List.mem_filter.mpr ⟨g_pr_mem.mpr ⟨w, hk, rfl⟩, ?_⟩))
    have h1 : ¬ (k + 1 = i ∧ (cv G w).category = 2) := by
      rintro ⟨e1, e2⟩
      subst e1
      rw [cv_cat] at e2
      simp only [g_ok, hk] at ho
      cases w <;> simp_all [Value.category]
    simp only [Bool.and_eq_true, Bool.not_eq_true', beq_eq_false_iff_ne, ne_eq, Bool.and_eq_false_iff]
    refine ⟨hki, hk2, ?_⟩
    by_cases e1 : k + 1 = i
    · exact Or.inr (fun e2 => h1 ⟨e1, e2⟩)
    · exact Or.inl e1
theorem go_istore_n {k : Fin 4} {x : Int32} (hd : decode μ.2.1 pc = .ok (.istore_n k, 1)) (hn : k.val < μ.2.2.1) (hok : g_ok ls k.val = true) (kk : Go μ d rc rs (pc + 1) (ls.set k.val (some (.int x))) st S I R L Q) : Go μ d rc rs pc ls (.int x :: st) S I R L Q := by
  intro l G p e RM s m args below meth c H locs cells slots mc ms lsA Z
  exact lv_istore_n Z.1.1 Z.1.2.1 hd rfl (g_L_has Z.2.2.2.2.2) hn rfl (fun ls2 h2 => (kk l G p e RM s m args below meth c H locs cells slots mc ms ls2 ⟨Z.1, Z.2.1, Z.2.2.1, Z.2.2.2.1, Z.2.2.2.2.1, g_L_st1 hok h2⟩))
theorem go_istore {i : Nat} {x : Int32} (hd : decode μ.2.1 pc = .ok (.istore i, 2)) (hn : i < μ.2.2.1) (hok : g_ok ls i = true) (kk : Go μ d rc rs (pc + 2) (ls.set i (some (.int x))) st S I R L Q) : Go μ d rc rs pc ls (.int x :: st) S I R L Q := by
  intro l G p e RM s m args below meth c H locs cells slots mc ms lsA Z
  exact lv_istore Z.1.1 Z.1.2.1 hd (g_L_has Z.2.2.2.2.2) hn rfl (fun ls2 h2 => (kk l G p e RM s m args below meth c H locs cells slots mc ms ls2 ⟨Z.1, Z.2.1, Z.2.2.1, Z.2.2.2.1, Z.2.2.2.2.1, g_L_st1 hok h2⟩))
theorem go_lstore_n {k : Fin 4} {x : Int64} (hd : decode μ.2.1 pc = .ok (.lstore_n k, 1)) (hn : k.val + 1 < μ.2.2.1) (hok : g_ok ls k.val = true) (kk : Go μ d rc rs (pc + 1) ((ls.set k.val (some (.long x))).set (k.val + 1) none) st S I R L Q) : Go μ d rc rs pc ls (.long x :: st) S I R L Q := by
  intro l G p e RM s m args below meth c H locs cells slots mc ms lsA Z
  exact lv_lstore_n Z.1.1 Z.1.2.1 hd rfl (g_L_has Z.2.2.2.2.2) hn rfl (fun ls2 h2 => (kk l G p e RM s m args below meth c H locs cells slots mc ms ls2 ⟨Z.1, Z.2.1, Z.2.2.1, Z.2.2.2.1, Z.2.2.2.2.1, g_L_st2 hok h2⟩))
theorem go_lstore {i : Nat} {x : Int64} (hd : decode μ.2.1 pc = .ok (.lstore i, 2)) (hn : i + 1 < μ.2.2.1) (hok : g_ok ls i = true) (kk : Go μ d rc rs (pc + 2) ((ls.set i (some (.long x))).set (i + 1) none) st S I R L Q) : Go μ d rc rs pc ls (.long x :: st) S I R L Q := by
  intro l G p e RM s m args below meth c H locs cells slots mc ms lsA Z
  exact lv_lstore Z.1.1 Z.1.2.1 hd (g_L_has Z.2.2.2.2.2) hn rfl (fun ls2 h2 => (kk l G p e RM s m args below meth c H locs cells slots mc ms ls2 ⟨Z.1, Z.2.1, Z.2.2.1, Z.2.2.2.1, Z.2.2.2.2.1, g_L_st2 hok h2⟩))
theorem go_astore_n {k : Fin 4} {x : Nat} (hd : decode μ.2.1 pc = .ok (.astore_n k, 1)) (hn : k.val < μ.2.2.1) (hok : g_ok ls k.val = true) (kk : Go μ d rc rs (pc + 1) (ls.set k.val (some (.ref x))) st S I R L Q) : Go μ d rc rs pc ls (.ref x :: st) S I R L Q := by
  intro l G p e RM s m args below meth c H locs cells slots mc ms lsA Z
  exact lv_astore_n Z.1.1 Z.1.2.1 hd rfl (g_L_has Z.2.2.2.2.2) hn rfl (fun ls2 h2 => (kk l G p e RM s m args below meth c H locs cells slots mc ms ls2 ⟨Z.1, Z.2.1, Z.2.2.1, Z.2.2.2.1, Z.2.2.2.2.1, g_L_st1 hok h2⟩))
theorem go_astore {i : Nat} {x : Nat} (hd : decode μ.2.1 pc = .ok (.astore i, 2)) (hn : i < μ.2.2.1) (hok : g_ok ls i = true) (kk : Go μ d rc rs (pc + 2) (ls.set i (some (.ref x))) st S I R L Q) : Go μ d rc rs pc ls (.ref x :: st) S I R L Q := by
  intro l G p e RM s m args below meth c H locs cells slots mc ms lsA Z
  exact lv_astore Z.1.1 Z.1.2.1 hd (g_L_has Z.2.2.2.2.2) hn rfl (fun ls2 h2 => (kk l G p e RM s m args below meth c H locs cells slots mc ms ls2 ⟨Z.1, Z.2.1, Z.2.2.1, Z.2.2.2.1, Z.2.2.2.2.1, g_L_st1 hok h2⟩))
theorem go_astoreX_n {k : Fin 4} {x : UInt32} (hd : decode μ.2.1 pc = .ok (.astore_n k, 1)) (hn : k.val < μ.2.2.1) (hok : g_ok ls k.val = true) (kk : Go μ d rc rs (pc + 1) (ls.set k.val (some (.float x))) st S I R L Q) : Go μ d rc rs pc ls (.float x :: st) S I R L Q := by
  intro l G p e RM s m args below meth c H locs cells slots mc ms lsA Z
  exact lv_astore_n Z.1.1 Z.1.2.1 hd rfl (g_L_has Z.2.2.2.2.2) hn rfl (fun ls2 h2 => (kk l G p e RM s m args below meth c H locs cells slots mc ms ls2 ⟨Z.1, Z.2.1, Z.2.2.1, Z.2.2.2.1, Z.2.2.2.2.1, g_L_st1 hok h2⟩))
theorem go_astoreX {i : Nat} {x : UInt32} (hd : decode μ.2.1 pc = .ok (.astore i, 2)) (hn : i < μ.2.2.1) (hok : g_ok ls i = true) (kk : Go μ d rc rs (pc + 2) (ls.set i (some (.float x))) st S I R L Q) : Go μ d rc rs pc ls (.float x :: st) S I R L Q := by
  intro l G p e RM s m args below meth c H locs cells slots mc ms lsA Z
  exact lv_astore Z.1.1 Z.1.2.1 hd (g_L_has Z.2.2.2.2.2) hn rfl (fun ls2 h2 => (kk l G p e RM s m args below meth c H locs cells slots mc ms ls2 ⟨Z.1, Z.2.1, Z.2.2.1, Z.2.2.2.1, Z.2.2.2.2.1, g_L_st1 hok h2⟩))
theorem go_astoreN_n {k : Fin 4} (hd : decode μ.2.1 pc = .ok (.astore_n k, 1)) (hn : k.val < μ.2.2.1) (hok : g_ok ls k.val = true) (kk : Go μ d rc rs (pc + 1) (ls.set k.val (some .null)) st S I R L Q) : Go μ d rc rs pc ls (.null :: st) S I R L Q := by
  intro l G p e RM s m args below meth c H locs cells slots mc ms lsA Z
  exact lv_astore_nN Z.1.1 Z.1.2.1 hd rfl (g_L_has Z.2.2.2.2.2) hn rfl (fun ls2 h2 => (kk l G p e RM s m args below meth c H locs cells slots mc ms ls2 ⟨Z.1, Z.2.1, Z.2.2.1, Z.2.2.2.1, Z.2.2.2.2.1, g_L_st1 hok h2⟩))
theorem go_iinc {i : Nat} {n : Int} {x : Int32} (hd : decode μ.2.1 pc = .ok (.iinc i n, 3)) (hx : ls[i]? = some (some (.int x))) (hn : i < μ.2.2.1) (hok : g_ok ls i = true) (kk : Go μ d rc rs (pc + 3) (ls.set i (some (.int (x + Int32.ofInt n)))) st S I R L Q) : Go μ d rc rs pc ls st S I R L Q := by
  intro l G p e RM s m args below meth c H locs cells slots mc ms lsA Z
  obtain ⟨j, hj⟩ := List.getElem?_of_mem (g_pr_mem (G := G) (q := (i, Value.int x)) |>.mpr ⟨.int x, hx, rfl⟩)
  exact lv_iinc Z.1.1 Z.1.2.1 hd (g_L_has Z.2.2.2.2.2) hj rfl hn rfl (fun ls2 h2 => (kk l G p e RM s m args below meth c H locs cells slots mc ms ls2 ⟨Z.1, Z.2.1, Z.2.2.1, Z.2.2.2.1, Z.2.2.2.2.1, g_L_st1 (v := .int (x + Int32.ofInt n)) hok h2⟩))
theorem go_iret {v : Int32} (hd : decode μ.2.1 pc = .ok (.ireturn, 1)) (hr : μ.2.2.2 = some .int) (hc : rc = 0) (hq : Q (some (.int v)) S I R L) : Go μ d rc rs pc ls [.int v] S I R L Q := by
  intro l G p e RM s m args below meth c H locs cells slots mc ms lsA Z
  subst hc
  obtain ⟨hC, hR, ⟨h1, h2, h3⟩, hP, hS, hL⟩ := Z
  subst h1
  have hlocks := hC.2.2.2.2.1
  refine W.widen (k := cells + 0) (n := ms) (Nat.le_refl _) (by omega) ?_
  exact W.iret hC.1 hC.2.1 (hC.2.2.2.1.trans hr) (fun t ht hW => ⟨some (.int v), S, I, R, L, rfl, hq, by rw [ht]; exact hP, by rw [ht]; exact ⟨hS.1, hS.2.1, fun _ h => by cases h⟩, h3⟩) hS.2.2 hd
theorem go_lret {v : Int64} (hd : decode μ.2.1 pc = .ok (.lreturn, 1)) (hr : μ.2.2.2 = some .long) (hc : rc = 0) (hq : Q (some (.long v)) S I R L) : Go μ d rc rs pc ls [.long v] S I R L Q := by
  intro l G p e RM s m args below meth c H locs cells slots mc ms lsA Z
  subst hc
  obtain ⟨hC, hR, ⟨h1, h2, h3⟩, hP, hS, hL⟩ := Z
  subst h1
  have hlocks := hC.2.2.2.2.1
  refine W.widen (k := cells + 0) (n := ms) (Nat.le_refl _) (by omega) ?_
  exact W.lret hC.1 hC.2.1 (hC.2.2.2.1.trans hr) (fun t ht hW => ⟨some (.long v), S, I, R, L, rfl, hq, by rw [ht]; exact hP, by rw [ht]; exact ⟨hS.1, hS.2.1, fun _ h => by cases h⟩, h3⟩) hS.2.2 hd
theorem go_zret {v : Int32} (hd : decode μ.2.1 pc = .ok (.ireturn, 1)) {ty : FieldType} (hr : μ.2.2.2 = some ty) (hn : narrow ty (.int v) = .int v) (hc : rc = 0) (hq : Q (some (.int v)) S I R L) : Go μ d rc rs pc ls [.int v] S I R L Q := by
  intro l G p e RM s m args below meth c H locs cells slots mc ms lsA Z
  subst hc
  obtain ⟨hC, hR, ⟨h1, h2, h3⟩, hP, hS, hL⟩ := Z
  subst h1
  have hlocks := hC.2.2.2.2.1
  refine W.widen (k := cells + 0) (n := ms) (Nat.le_refl _) (by omega) ?_
  exact W.zret hC.1 hC.2.1 (hC.2.2.2.1.trans hr) hn (fun t ht hW => ⟨some (.int v), S, I, R, L, rfl, hq, by rw [ht]; exact hP, by rw [ht]; exact ⟨hS.1, hS.2.1, fun _ h => by cases h⟩, h3⟩) hS.2.2 hd
theorem go_vret (hd : decode μ.2.1 pc = .ok (.return_, 1)) (hr : μ.2.2.2 = none) (hc : rc = 0) (hq : Q none S I R L) : Go μ d rc rs pc ls [] S I R L Q := by
  intro l G p e RM s m args below meth c H locs cells slots mc ms lsA Z
  subst hc
  obtain ⟨hC, hR, ⟨h1, h2, h3⟩, hP, hS, hL⟩ := Z
  subst h1
  have hlocks := hC.2.2.2.2.1
  refine W.widen (k := cells + 0) (n := ms) (Nat.le_refl _) (by omega) ?_
  exact W.vret hC.1 hC.2.1 (hC.2.2.2.1.trans hr) (fun t ht hW => ⟨none, S, I, R, L, rfl, hq, by rw [ht]; exact hP, by rw [ht]; exact ⟨hS.1, hS.2.1, fun _ h => by cases h⟩, h3⟩) hS.2.2 hd
theorem go_aret {v : Value} (hv : v = .null ∨ ∃ a, v = .ref a) (hd : decode μ.2.1 pc = .ok (.areturn, 1)) {n : String} (hr : μ.2.2.2 = some (.object n)) (hc : rc = 0) (hq : Q (some v) S I R L) : Go μ d rc rs pc ls [v] S I R L Q := by
  intro l G p e RM s m args below meth c H locs cells slots mc ms lsA Z
  subst hc
  obtain ⟨hC, hR, ⟨h1, h2, h3⟩, hP, hS, hL⟩ := Z
  subst h1
  have hlocks := hC.2.2.2.2.1
  refine W.widen (k := cells + 0) (n := ms) (Nat.le_refl _) (by omega) ?_
  exact W.aret (v := cv G v) hC.1 hC.2.1 (hC.2.2.2.1.trans hr) (Or.inl ⟨n, rfl⟩) (by rcases hv with rfl | ⟨a, rfl⟩; exact Or.inl rfl; exact Or.inr ⟨_, rfl⟩) (fun t ht hW => ⟨some v, S, I, R, L, rfl, hq, by rw [ht]; exact hP, by rw [ht]; exact ⟨hS.1, hS.2.1, fun _ h => by cases h⟩, h3⟩) hS.2.2 hd
end GR
end
section
/-! the GO rows of instructions that touch cells -/
def up (I : gI) (c i : Nat) (x : Int32) : gI := fun a j => if a = c ∧ j = i then x else I a j
def upR (R : gR) (c i : Nat) (x : Option Nat) : gR := fun a j => if a = c ∧ j = i then x else R a j
def upL (L : gL) (c i : Nat) (x : Int64) : gL := fun a j => if a = c ∧ j = i then x else L a j
theorem up_eq (I : gI) (c i : Nat) (x : Int32) : up I c i x c i = x := by simp [up]
theorem up_ne {I : gI} {c i a j : Nat} {x : Int32} (h : ¬ (a = c ∧ j = i)) : up I c i x a j = I a j := by simp [up, h]
theorem up_nc {I : gI} {c i a j : Nat} {x : Int32} (h : a ≠ c) : up I c i x a j = I a j := by simp [up, h]
theorem up_ni {I : gI} {c i a j : Nat} {x : Int32} (h : j ≠ i) : up I c i x a j = I a j := by simp [up, h]
theorem up_row (I : gI) (c i : Nat) (x : Int32) : up I c i x c = upd (I c) i x := by funext j; simp [up, upd]
theorem up_off {I : gI} {c i : Nat} {x : Int32} (a : Nat) (h : a ≠ c) : up I c i x a = I a := by funext j; simp [up, h]
theorem upR_eq (I : gR) (c i : Nat) (x : Option Nat) : upR I c i x c i = x := by simp [upR]
theorem upR_nc {I : gR} {c i a j : Nat} {x : Option Nat} (h : a ≠ c) : upR I c i x a j = I a j := by simp [upR, h]
theorem upR_ni {I : gR} {c i a j : Nat} {x : Option Nat} (h : j ≠ i) : upR I c i x a j = I a j := by simp [upR, h]
theorem upR_off {I : gR} {c i : Nat} {x : Option Nat} (a : Nat) (h : a ≠ c) : upR I c i x a = I a := by funext j; simp [upR, h]
theorem upL_off {I : gL} {c i : Nat} {x : Int64} (a : Nat) (h : a ≠ c) : upL I c i x a = I a := by funext j; simp [upL, h]
theorem upL_row (I : gL) (c i : Nat) (x : Int64) : upL I c i x c = vp_updL (I c) i x := by funext j; simp [upL, vp_updL]
def g_F (own : String) (idx ci k : Nat) (ty : FieldType) (fin : Bool) : Prop := ∃ r : vw_C, g_cl[ci]? = some r ∧ k < r.2.2 ∧ Cond.fieldLink own idx (r.2.1 k).1 (r.2.1 k).2.1 (r.2.1 k).2.2.1 ∈ g_t ∧ g_ty ci k = ty ∧ (r.2.1 k).2.2.2 = fin
theorem g_fs_at {G : gG} {I : gI} {R : gR} {a ci k : Nat} (hk : k < g_nf ci) : ((List.range (g_nf ci)).map (g_f G I R a ci))[k]? = some (g_f G I R a ci k) := by
  rw [List.getElem?_map, List.getElem?_range hk]; rfl
theorem g_fs_set {G : gG} {I I' : gI} {R R' : gR} {a ci k : Nat} {v : Value} (hv : g_f G I' R' a ci k = v) (ho : ∀ j, j ≠ k → g_f G I' R' a ci j = g_f G I R a ci j) : ((List.range (g_nf ci)).map (g_f G I R a ci)).set k v = (List.range (g_nf ci)).map (g_f G I' R' a ci) := by
  apply List.ext_getElem?
  intro j
  by_cases hj : j = k
  · subst hj
    by_cases hl : j < g_nf ci
    · rw [List.getElem?_set_self (by simpa using hl), g_fs_at hl, hv]
    · rw [List.getElem?_eq_none (by simpa using hl), List.getElem?_eq_none (by simpa using hl)]
  · rw [List.getElem?_set_ne (Ne.symm hj)]
    by_cases hl : j < g_nf ci
    · rw [g_fs_at hl, g_fs_at hl, ho j hj]
    · rw [List.getElem?_eq_none (by simpa using hl), List.getElem?_eq_none (by simpa using hl)]
section GC
variable {μ : gm} {d rc rs pc : Nat} {ls : List (Option Value)} {st : List Value} {S : gS} {I : gI} {R : gR} {L : gL} {Q : gQ}
/-- how large the heap is -/
theorem g_size {p : Program} {l : Launch} {e : Env} {RM : Room} {s : State} {m : MethodId} {args : Array Value} {below : List Frame} {meth : Method} {c : Code} {H : Heap} {locs : List Loc} {cells slots : Nat} {QQ : State → Prop} {g : JFrame} {G : gG} (h3 : s.heap.size + cells = G.1.size + S.length) (hP : va_P G.2.1 g_cl (g_W G S I R L) H) (hS : va_S (g_A G) G.1 H locs) (k : H.size = G.1.size + S.length → W p l e RM s m args below meth c H locs cells slots QQ g) : W p l e RM s m args below meth c H locs cells slots QQ g := by
  intro T hT X
  refine k ?_ T hT X
  have h1 := X.heapSize
  rw [hT] at h1
  rcases Nat.eq_zero_or_pos S.length with h0 | h0
  · have := hS.1
    omega
  · obtain ⟨x, hx⟩ : ∃ x, S[S.length - 1]? = some x := ⟨_, List.getElem?_eq_getElem (by omega)⟩
    have h2 := (hP _ _ (g_W_at hx)).lt
    simp only at h2
    omega
theorem go_getI {a ci k idx : Nat} {ty : FieldType} {fin : Bool} (hd : decode μ.2.1 pc = .ok (.getfield idx, 3)) (hf : g_F μ.1.cls idx ci k ty fin) (hty : g_rt ty = false) (hs : S[a]? = some (0, ci)) (kk : Go μ d rc rs (pc + 3) ls (.int (I a k) :: st) S I R L Q) : Go μ d rc rs pc ls (.ref a :: st) S I R L Q := by
  intro l G p e RM s m args below meth c H locs cells slots mc ms lsA Z
  obtain ⟨r, hr, hk, hw, hg, -⟩ := hf
  obtain ⟨c1, -, -, c4⟩ := g_cls hr
  have hv : g_f G I R a ci k = .int (I a k) := by simp [g_f, hg, hty]
  exact va_get Z.1.1 Z.1.2.1 Z.1.2.2.2.2.2.2.1 (g_uws c1) Z.1.2.2.2.2.2.1 Z.1.2.2.2.2.2.2.2.2.1.1 Z.2.2.2.1 a (g_W_at hs) hr k hk (Z.1.2.2.2.2.2.2.1 _ hw) (fun _ h => h) ((g_fs_at (c4 ▸ hk)).trans (congrArg some hv)) hd (kk l G p e RM s m args below meth c H locs cells slots mc ms lsA Z)
theorem go_getR {a ci k idx v : Nat} {ty : FieldType} {fin : Bool} (hd : decode μ.2.1 pc = .ok (.getfield idx, 3)) (hf : g_F μ.1.cls idx ci k ty fin) (hty : g_rt ty = true) (hs : S[a]? = some (0, ci)) (hr2 : R a k = some v) (kk : Go μ d rc rs (pc + 3) ls (.ref v :: st) S I R L Q) : Go μ d rc rs pc ls (.ref a :: st) S I R L Q := by
  intro l G p e RM s m args below meth c H locs cells slots mc ms lsA Z
  obtain ⟨r, hr, hk, hw, hg, -⟩ := hf
  obtain ⟨c1, -, -, c4⟩ := g_cls hr
  have hv : g_f G I R a ci k = .ref (G.1.size + v) := by simp [g_f, hg, hty, hr2, va_rf]
  exact va_get Z.1.1 Z.1.2.1 Z.1.2.2.2.2.2.2.1 (g_uws c1) Z.1.2.2.2.2.2.1 Z.1.2.2.2.2.2.2.2.2.1.1 Z.2.2.2.1 a (g_W_at hs) hr k hk (Z.1.2.2.2.2.2.2.1 _ hw) (fun _ h => h) ((g_fs_at (c4 ▸ hk)).trans (congrArg some hv)) hd (kk l G p e RM s m args below meth c H locs cells slots mc ms lsA Z)
theorem go_putI {a ci k idx : Nat} {x : Int32} {ty : FieldType} (hd : decode μ.2.1 pc = .ok (.putfield idx, 3)) (hf : g_F μ.1.cls idx ci k ty false) (hty : g_rt ty = false) (hn : narrow ty (.int x) = .int x) (hfit : fits ty (.int x) = true) (hs : S[a]? = some (0, ci)) (kk : Go μ d rc rs (pc + 3) ls st S (up I a k x) R L Q) : Go μ d rc rs pc ls (.int x :: .ref a :: st) S I R L Q := by
  intro l G p e RM s m args below meth c H locs cells slots mc ms lsA Z
  obtain ⟨r, hr, hk, hw, hg, hfin⟩ := hf
  obtain ⟨c1, c2, c3, c4⟩ := g_cls hr
  refine va_put (H0 := G.1) (A := g_A G) Z.1.1 Z.1.2.1 Z.1.2.2.2.2.2.2.1 (g_uws c1) (g_ty ci) c3 c2 Z.1.2.2.2.2.2.1 Z.1.2.2.2.2.2.2.2.2.1.1 Z.2.2.2.1 g_D Z.2.2.2.2.1 a (g_W_at hs) hr k hk (Z.1.2.2.2.2.2.2.1 _ hw) (fun _ h => h) hfin (ty := ty) (by rw [← hg]; exact c3 k hk) hn hfit (by simpa using c4 ▸ hk) hd (fun H1 locs1 hP1 hD1 hS1 => ?_)
  have e1 : ((List.range (g_nf ci)).map (g_f G I R a ci)).set k (.int x) = (List.range (g_nf ci)).map (g_f G (up I a k x) R a ci) := g_fs_set (by simp [g_f, hg, hty, up_eq]) (fun j hj => by simp [g_f, up_ni hj])
  have hP1 : va_P G.2.1 g_cl ((g_W G S I R L).set a (G.1.size + a, .inr (ci, ((List.range (g_nf ci)).map (g_f G I R a ci)).set k (.int x)))) H1 := hP1
  rw [e1] at hP1
  have e2 : (g_W G S I R L).set a (G.1.size + a, .inr (ci, (List.range (g_nf ci)).map (g_f G (up I a k x) R a ci))) = g_W G S (up I a k x) R L := g_W_set (I := I) (I' := up I a k x) (R := R) (R' := R) (L := L) (L' := L) hs (fun z hz => up_off z hz) (fun _ _ => rfl) (fun _ _ => rfl)
  rw [e2] at hP1
  exact kk l G p e RM s m args below meth c H1 locs1 cells slots mc ms lsA ⟨Z.1, Z.2.1, Z.2.2.1, hP1, hS1, Z.2.2.2.2.2⟩
theorem g_R_set {G : gG} {a ci k v : Nat} {ty : FieldType} (hs : S[a]? = some (0, ci)) (hg : g_ty ci k = ty) (hty : g_rt ty = true) : (g_W G S I R L).set a (G.1.size + a, .inr (ci, ((List.range (g_nf ci)).map (g_f G I R a ci)).set k (.ref (G.1.size + v)))) = g_W G S I (upR R a k (some v)) L := by
  have e1 : ((List.range (g_nf ci)).map (g_f G I R a ci)).set k (.ref (G.1.size + v)) = (List.range (g_nf ci)).map (g_f G I (upR R a k (some v)) a ci) := g_fs_set (by simp [g_f, hg, hty, upR_eq, va_rf]) (fun j hj => by simp [g_f, upR_ni hj])
  rw [e1]
  exact g_W_set (I := I) (I' := I) (R := R) (R' := upR R a k (some v)) (L := L) (L' := L) hs (fun _ _ => rfl) (fun z hz => upR_off z hz) (fun _ _ => rfl)
theorem go_putR {a ci k idx v : Nat} {ty : FieldType} (hd : decode μ.2.1 pc = .ok (.putfield idx, 3)) (hf : g_F μ.1.cls idx ci k ty false) (hty : g_rt ty = true) (hn : ∀ z, narrow ty (.ref z) = .ref z ∧ fits ty (.ref z) = true) (hs : S[a]? = some (0, ci)) (kk : Go μ d rc rs (pc + 3) ls st S I (upR R a k (some v)) L Q) : Go μ d rc rs pc ls (.ref v :: .ref a :: st) S I R L Q := by
  intro l G p e RM s m args below meth c H locs cells slots mc ms lsA Z
  obtain ⟨r, hr, hk, hw, hg, hfin⟩ := hf
  obtain ⟨c1, c2, c3, c4⟩ := g_cls hr
  refine va_put (H0 := G.1) (A := g_A G) Z.1.1 Z.1.2.1 Z.1.2.2.2.2.2.2.1 (g_uws c1) (g_ty ci) c3 c2 Z.1.2.2.2.2.2.1 Z.1.2.2.2.2.2.2.2.2.1.1 Z.2.2.2.1 g_D Z.2.2.2.2.1 a (g_W_at hs) hr k hk (Z.1.2.2.2.2.2.2.1 _ hw) (fun _ h => h) hfin (ty := ty) (by rw [← hg]; exact c3 k hk) (hn _).1 (hn _).2 (by simpa using c4 ▸ hk) hd (fun H1 locs1 hP1 hD1 hS1 => ?_)
  have hP1 : va_P G.2.1 g_cl ((g_W G S I R L).set a (G.1.size + a, .inr (ci, ((List.range (g_nf ci)).map (g_f G I R a ci)).set k (.ref (G.1.size + v))))) H1 := hP1
  rw [g_R_set hs hg hty] at hP1
  exact kk l G p e RM s m args below meth c H1 locs1 cells slots mc ms lsA ⟨Z.1, Z.2.1, Z.2.2.1, hP1, hS1, Z.2.2.2.2.2⟩
/-- a final field of an object that is being made -/
theorem go_putF {a ci k idx v : Nat} {ty : FieldType} (hd : decode μ.2.1 pc = .ok (.putfield idx, 3)) (hf : g_F μ.1.cls idx ci k ty true) (hty : g_rt ty = true) (hn : ∀ z, narrow ty (.ref z) = .ref z ∧ fits ty (.ref z) = true) (hi : μ.1.name = "<init>") (ho : ∀ r, g_cl[ci]? = some r → (r.2.1 k).1 = μ.1.cls) (hs : S[a]? = some (0, ci)) (kk : Go μ d rc rs (pc + 3) ls st S I (upR R a k (some v)) L Q) : Go μ d rc rs pc ls (.ref v :: .ref a :: st) S I R L Q := by
  intro l G p e RM s m args below meth c H locs cells slots mc ms lsA Z
  obtain ⟨r, hr, hk, hw, hg, hfin⟩ := hf
  obtain ⟨c1, c2, c3, c4⟩ := g_cls hr
  refine va_putF (H0 := G.1) (A := g_A G) Z.1.1 Z.1.2.1 Z.1.2.2.2.2.2.2.1 (g_uws c1) (g_ty ci) c3 c2 Z.1.2.2.2.2.2.1 Z.1.2.2.2.2.2.2.2.2.1.1 Z.2.2.2.1 g_D Z.2.2.2.2.1 a (g_W_at hs) hr k hk (Z.1.2.2.2.2.2.2.1 _ hw) (fun _ h => h) hfin (Z.1.2.2.2.2.2.2.2.1.trans hi) (ho r hr) (ty := ty) (by rw [← hg]; exact c3 k hk) (hn _).1 (hn _).2 (by simpa using c4 ▸ hk) hd (fun H1 locs1 hP1 hD1 hS1 => ?_)
  have hP1 : va_P G.2.1 g_cl ((g_W G S I R L).set a (G.1.size + a, .inr (ci, ((List.range (g_nf ci)).map (g_f G I R a ci)).set k (.ref (G.1.size + v))))) H1 := hP1
  rw [g_R_set hs hg hty] at hP1
  exact kk l G p e RM s m args below meth c H1 locs1 cells slots mc ms lsA ⟨Z.1, Z.2.1, Z.2.2.1, hP1, hS1, Z.2.2.2.2.2⟩
/-! arrays -/
theorem go_iald {a n : Nat} {i : Int32} (hd : decode μ.2.1 pc = .ok (.iaload, 1)) (hs : S[a]? = some (1, n)) (hin : vp_in i n) (kk : Go μ d rc rs (pc + 1) ls (.int (I a i.toNatClampNeg) :: st) S I R L Q) : Go μ d rc rs pc ls (.int i :: .ref a :: st) S I R L Q := by
  intro l G p e RM s m args below meth c H locs cells slots mc ms lsA Z
  exact va_iald Z.1.1 Z.1.2.1 Z.1.2.2.2.2.2.2.2.2.1.1 Z.2.2.2.1 a 0 (g_W_at hs) rfl hin hd (kk l G p e RM s m args below meth c H locs cells slots mc ms lsA Z)
theorem go_bald {a n : Nat} {i : Int32} (hd : decode μ.2.1 pc = .ok (.baload, 1)) (hs : S[a]? = some (2, n)) (hin : vp_in i n) (kk : Go μ d rc rs (pc + 1) ls (.int (I a i.toNatClampNeg) :: st) S I R L Q) : Go μ d rc rs pc ls (.int i :: .ref a :: st) S I R L Q := by
  intro l G p e RM s m args below meth c H locs cells slots mc ms lsA Z
  exact va_bald Z.1.1 Z.1.2.1 Z.1.2.2.2.2.2.2.2.2.1.1 Z.2.2.2.1 a 1 (g_W_at hs) rfl hin hd (kk l G p e RM s m args below meth c H locs cells slots mc ms lsA Z)
theorem go_lald {a n : Nat} {i : Int32} (hd : decode μ.2.1 pc = .ok (.laload, 1)) (hs : S[a]? = some (3, n)) (hin : vp_in i n) (kk : Go μ d rc rs (pc + 1) ls (.long (L a i.toNatClampNeg) :: st) S I R L Q) : Go μ d rc rs pc ls (.int i :: .ref a :: st) S I R L Q := by
  intro l G p e RM s m args below meth c H locs cells slots mc ms lsA Z
  exact va_lald Z.1.1 Z.1.2.1 Z.1.2.2.2.2.2.2.2.2.1.1 Z.2.2.2.1 a 2 (g_W_at hs) rfl hin hd (kk l G p e RM s m args below meth c H locs cells slots mc ms lsA Z)
theorem go_aald4 {a n v : Nat} {i : Int32} (hd : decode μ.2.1 pc = .ok (.aaload, 1)) (hs : S[a]? = some (4, n)) (hin : vp_in i n) (hv : R a i.toNatClampNeg = some v) (kk : Go μ d rc rs (pc + 1) ls (.ref v :: st) S I R L Q) : Go μ d rc rs pc ls (.int i :: .ref a :: st) S I R L Q := by
  intro l G p e RM s m args below meth c H locs cells slots mc ms lsA Z
  have h := kk l G p e RM s m args below meth c H locs cells slots mc ms lsA Z
  refine va_aldq Z.1.1 Z.1.2.1 Z.1.2.2.2.2.2.2.2.2.1.1 Z.2.2.2.1 a 3 (g_W_at hs) rfl hin hd ?_
  simp only [hv]
  exact h
theorem go_aald5 {a n v : Nat} {i : Int32} (hd : decode μ.2.1 pc = .ok (.aaload, 1)) (hs : S[a]? = some (5, n)) (hin : vp_in i n) (hv : R a i.toNatClampNeg = some v) (kk : Go μ d rc rs (pc + 1) ls (.ref v :: st) S I R L Q) : Go μ d rc rs pc ls (.int i :: .ref a :: st) S I R L Q := by
  intro l G p e RM s m args below meth c H locs cells slots mc ms lsA Z
  have h := kk l G p e RM s m args below meth c H locs cells slots mc ms lsA Z
  refine va_aldq Z.1.1 Z.1.2.1 Z.1.2.2.2.2.2.2.2.2.1.1 Z.2.2.2.1 a 4 (g_W_at hs) rfl hin hd ?_
  simp only [hv]
  exact h
theorem go_iast {a n : Nat} {i x : Int32} (hd : decode μ.2.1 pc = .ok (.iastore, 1)) (hs : S[a]? = some (1, n)) (hin : vp_in i n) (kk : Go μ d rc rs (pc + 1) ls st S (up I a i.toNatClampNeg x) R L Q) : Go μ d rc rs pc ls (.int x :: .int i :: .ref a :: st) S I R L Q := by
  intro l G p e RM s m args below meth c H locs cells slots mc ms lsA Z
  refine va_iast (H0 := G.1) (A := g_A G) Z.1.1 Z.1.2.1 Z.1.2.2.2.2.2.2.2.2.1.1 Z.2.2.2.1 g_D Z.2.2.2.2.1 a 0 (g_W_at hs) rfl hin hd (fun H1 locs1 hP1 hD1 hS1 => ?_)
  have hP1 : va_P G.2.1 g_cl ((g_W G S I R L).set a (G.1.size + a, .inl (G.2.2.1 0, n, .inl (upd (I a) i.toNatClampNeg x)))) H1 := hP1
  rw [← up_row] at hP1
  have e2 : (g_W G S I R L).set a (G.1.size + a, .inl (G.2.2.1 0, n, .inl (up I a i.toNatClampNeg x a))) = g_W G S (up I a i.toNatClampNeg x) R L := g_W_set (I := I) (I' := up I a i.toNatClampNeg x) (R := R) (R' := R) (L := L) (L' := L) hs (fun z hz => up_off z hz) (fun _ _ => rfl) (fun _ _ => rfl)
  rw [e2] at hP1
  exact kk l G p e RM s m args below meth c H1 locs1 cells slots mc ms lsA ⟨Z.1, Z.2.1, Z.2.2.1, hP1, hS1, Z.2.2.2.2.2⟩
theorem go_bast {a n : Nat} {i x : Int32} (hd : decode μ.2.1 pc = .ok (.bastore, 1)) (hs : S[a]? = some (2, n)) (hin : vp_in i n) (kk : Go μ d rc rs (pc + 1) ls st S (up I a i.toNatClampNeg x.toInt8.toInt32) R L Q) : Go μ d rc rs pc ls (.int x :: .int i :: .ref a :: st) S I R L Q := by
  intro l G p e RM s m args below meth c H locs cells slots mc ms lsA Z
  refine va_bast (H0 := G.1) (A := g_A G) Z.1.1 Z.1.2.1 Z.1.2.2.2.2.2.2.2.2.1.1 Z.2.2.2.1 g_D Z.2.2.2.2.1 a 1 (g_W_at hs) rfl hin hd (fun H1 locs1 hP1 hD1 hS1 => ?_)
  have hP1 : va_P G.2.1 g_cl ((g_W G S I R L).set a (G.1.size + a, .inl (G.2.2.1 1, n, .inl (upd (I a) i.toNatClampNeg (vp_nar .byte x))))) H1 := hP1
  rw [vp_nar_byte, ← up_row] at hP1
  have e2 : (g_W G S I R L).set a (G.1.size + a, .inl (G.2.2.1 1, n, .inl (up I a i.toNatClampNeg x.toInt8.toInt32 a))) = g_W G S (up I a i.toNatClampNeg x.toInt8.toInt32) R L := g_W_set (I := I) (I' := up I a i.toNatClampNeg x.toInt8.toInt32) (R := R) (R' := R) (L := L) (L' := L) hs (fun z hz => up_off z hz) (fun _ _ => rfl) (fun _ _ => rfl)
  rw [e2] at hP1
  exact kk l G p e RM s m args below meth c H1 locs1 cells slots mc ms lsA ⟨Z.1, Z.2.1, Z.2.2.1, hP1, hS1, Z.2.2.2.2.2⟩
theorem go_last {a n : Nat} {i : Int32} {x : Int64} (hd : decode μ.2.1 pc = .ok (.lastore, 1)) (hs : S[a]? = some (3, n)) (hin : vp_in i n) (kk : Go μ d rc rs (pc + 1) ls st S I R (upL L a i.toNatClampNeg x) Q) : Go μ d rc rs pc ls (.long x :: .int i :: .ref a :: st) S I R L Q := by
  intro l G p e RM s m args below meth c H locs cells slots mc ms lsA Z
  refine va_last (H0 := G.1) (A := g_A G) Z.1.1 Z.1.2.1 Z.1.2.2.2.2.2.2.2.2.1.1 Z.2.2.2.1 g_D Z.2.2.2.2.1 a 2 (g_W_at hs) rfl hin hd (fun H1 locs1 hP1 hD1 hS1 => ?_)
  have hP1 : va_P G.2.1 g_cl ((g_W G S I R L).set a (G.1.size + a, .inl (G.2.2.1 2, n, .inr (.inl (vp_updL (L a) i.toNatClampNeg x))))) H1 := hP1
  rw [← upL_row] at hP1
  have e2 : (g_W G S I R L).set a (G.1.size + a, .inl (G.2.2.1 2, n, .inr (.inl (upL L a i.toNatClampNeg x a)))) = g_W G S I R (upL L a i.toNatClampNeg x) := g_W_set (I := I) (I' := I) (R := R) (R' := R) (L := L) (L' := upL L a i.toNatClampNeg x) hs (fun _ _ => rfl) (fun _ _ => rfl) (fun z hz => upL_off z hz)
  rw [e2] at hP1
  exact kk l G p e RM s m args below meth c H1 locs1 cells slots mc ms lsA ⟨Z.1, Z.2.1, Z.2.2.1, hP1, hS1, Z.2.2.2.2.2⟩
theorem go_aast {κ t a n v ci : Nat} {i : Int32} {C : String} (hd : decode μ.2.1 pc = .ok (.aastore, 1)) (hs : S[a]? = some (κ + 4, n)) (ht : ∀ G : gG, (g_tys G)[κ + 3]? = some (G.2.2.1 (κ + 3), .object C)) (hv : S[v]? = some (0, ci)) (hC : ∃ r, g_cl[ci]? = some r ∧ r.1 = C) (hin : vp_in i n) (kk : Go μ d rc rs (pc + 1) ls st S I (upR R a i.toNatClampNeg (some v)) L Q) : Go μ d rc rs pc ls (.ref v :: .int i :: .ref a :: st) S I R L Q := by
  intro l G p e RM s m args below meth c H locs cells slots mc ms lsA Z
  obtain ⟨r, hr, rfl⟩ := hC
  refine va_astq (H0 := G.1) (A := g_A G) Z.1.1 Z.1.2.1 Z.1.2.2.2.2.2.2.2.2.1.1 Z.2.2.2.1 g_D Z.2.2.2.2.1 a (κ + 3) v ci (r := r) (g_W_at hs) (ht G) (g_W_at hv) hr hin hd (fun H1 locs1 hP1 hD1 hS1 => ?_)
  have e1 : va_up (fun j => (R a j).map (G.1.size + ·)) i.toNatClampNeg (some (G.1.size + v)) = fun j => (upR R a i.toNatClampNeg (some v) a j).map (G.1.size + ·) := by
    funext j
    by_cases hj : j = i.toNatClampNeg
    · subst hj
      simp [va_up, upR_eq]
    · simp [va_up, hj, upR_ni hj]
  have hP1 : va_P G.2.1 g_cl ((g_W G S I R L).set a (G.1.size + a, .inl (G.2.2.1 (κ + 3), n, .inr (.inr (.inr (.inr (va_up (fun j => (R a j).map (G.1.size + ·)) i.toNatClampNeg (some (G.1.size + v))))))))) H1 := hP1
  rw [e1] at hP1
  have e2 : (g_W G S I R L).set a (G.1.size + a, .inl (G.2.2.1 (κ + 3), n, .inr (.inr (.inr (.inr (fun j => (upR R a i.toNatClampNeg (some v) a j).map (G.1.size + ·))))))) = g_W G S I (upR R a i.toNatClampNeg (some v)) L := g_W_set (x := (κ + 4, n)) (I := I) (I' := I) (R := R) (R' := upR R a i.toNatClampNeg (some v)) (L := L) (L' := L) hs (fun _ _ => rfl) (fun z hz => upR_off z hz) (fun _ _ => rfl)
  rw [e2] at hP1
  exact kk l G p e RM s m args below meth c H1 locs1 cells slots mc ms lsA ⟨Z.1, Z.2.1, Z.2.2.1, hP1, hS1, Z.2.2.2.2.2⟩
theorem go_alen {a n : Nat} (κ : Nat) {v : Int32} (hd : decode μ.2.1 pc = .ok (.arraylength, 1)) (hs : S[a]? = some (κ + 1, n)) (hκ : κ < 5) (hv : Int32.ofNat n = v) (kk : Go μ d rc rs (pc + 1) ls (.int v :: st) S I R L Q) : Go μ d rc rs pc ls (.ref a :: st) S I R L Q := by
  intro l G p e RM s m args below meth c H locs cells slots mc ms lsA Z
  have h := kk l G p e RM s m args below meth c H locs cells slots mc ms lsA Z
  match κ, hs, hκ with
  | 0, hs, _ => exact va_alen Z.1.1 Z.1.2.1 Z.1.2.2.2.2.2.2.2.2.1.1 Z.2.2.2.1 a 0 (g_W_at hs) rfl hv hd h
  | 1, hs, _ => exact va_alen Z.1.1 Z.1.2.1 Z.1.2.2.2.2.2.2.2.2.1.1 Z.2.2.2.1 a 1 (g_W_at hs) rfl hv hd h
  | 2, hs, _ => exact va_alen Z.1.1 Z.1.2.1 Z.1.2.2.2.2.2.2.2.2.1.1 Z.2.2.2.1 a 2 (g_W_at hs) rfl hv hd h
  | 3, hs, _ => exact va_alen Z.1.1 Z.1.2.1 Z.1.2.2.2.2.2.2.2.2.1.1 Z.2.2.2.1 a 3 (g_W_at hs) rfl hv hd h
  | 4, hs, _ => exact va_alen Z.1.1 Z.1.2.1 Z.1.2.2.2.2.2.2.2.2.1.1 Z.2.2.2.1 a 4 (g_W_at hs) rfl hv hd h
  | k + 5, hs, h5 => exact absurd h5 (by omega)
end GC
end
section
/-! the GO rows that make cells, call methods, and read what lies outside -/
section GN
variable {μ : gm} {d rc rs pc : Nat} {ls : List (Option Value)} {st : List Value} {S : gS} {I : gI} {R : gR} {L : gL} {Q : gQ}
theorem g_W_app {G : gG} (x : Nat × Nat) : g_W G (S ++ [x]) I R L = g_W G S I R L ++ [(G.1.size + S.length, g_e G I R L S.length x)] := by
  simp [g_W, List.mapIdx_concat]
theorem g_P_app {G : gG} {H H1 : Heap} {x : Nat × Nat} (hP : va_P G.2.1 g_cl (g_W G S I R L) H) (hz : H.size = G.1.size + S.length) (ho : ∀ q, q < H.size → H1[q]? = H[q]?) (hn : va_at G.2.1 g_cl (G.1.size + S.length, g_e G I R L S.length x) H1) : va_P G.2.1 g_cl (g_W G (S ++ [x]) I R L) H1 := by
  rw [g_W_app]
  refine va_P.app (hP.kept (fun k q h => ho q.1 ((hP k q h).lt))) (fun k q h => ?_)
  have hk : k < 1 := (List.getElem?_eq_some_iff.mp h).1
  rw [show k = 0 by omega] at h
  cases h
  exact hn
theorem g_S_app {G : gG} {H H1 : Heap} {locs : List Loc} (hS : va_S (g_A G) G.1 H locs) (z : H.size ≤ H1.size) (ho : ∀ q, q < H.size → H1[q]? = H[q]?) : va_S (g_A G) G.1 H1 locs :=
  ⟨Nat.le_trans hS.1 z, fun q h1 h2 => (ho q (Nat.lt_of_lt_of_le h1 hS.1)).trans (hS.2.1 q h1 h2), hS.2.2⟩
theorem go_new {ci idx N : Nat} {C : String} (hd : decode μ.2.1 pc = .ok (.new idx, 3)) (hc : ∃ T, g_cl[ci]? = some (C, T, N)) (hw1 : Cond.classLink μ.1.cls idx C ∈ g_t) (hw2 : Cond.instantiable C N ∈ g_t) (hw3 : Cond.initialized C ∈ g_t) (hI : ∀ j, I S.length j = 0) (hR : ∀ j, R S.length j = none)
    (hdef : ∀ j, j < N → defaultValue (g_ty ci j) = if g_rt (g_ty ci j) = true then .null else .int 0)
    (kk : Go μ d rc rs (pc + 3) ls (.ref S.length :: st) (S ++ [(0, ci)]) I R L Q) : Go μ d (rc + 1) (rs + N) pc ls st S I R L Q := by
  intro l G p e RM s m args below meth c H locs cells slots mc ms lsA Z
  obtain ⟨hC, hRM, ⟨h1, h2, h3⟩, hP, hS, hL⟩ := Z
  obtain ⟨T, hr⟩ := hc
  obtain ⟨c1, c2, c3, c4⟩ := g_cls hr
  have hKn := hC.2.2.2.2.2.2.2.2.1.1.1 ci _ hr
  refine g_size h3 hP hS fun hz => ?_
  refine W.newcK hC.1 hC.2.1 hC.2.2.2.2.2.1 (hC.2.2.2.2.2.2.1 _ hw1) (hC.2.2.2.2.2.2.1 _ hw2) (hC.2.2.2.2.2.2.1 _ hw3) rfl hd (by omega) (by omega) hKn.2.1 hz fun H1 kC hkC e1 z1 o1 => ?_
  have hO := u_born (g_ty ci) hC.2.2.2.2.2.2.1 (g_uws c1) hKn hkC e1 c3
  refine kk l G p e RM s m args below meth c H1 locs (cells + 1) (slots + N) mc ms lsA ⟨hC, hRM, ⟨by omega, by omega, by simp; omega⟩, g_P_app hP hz (fun q hq => o1 q (by omega)) ⟨_, hr, hO.to (fun k hk => ?_)⟩, g_S_app hS (by omega) (fun q hq => o1 q (by omega)), hL⟩
  have hk2 : k < g_nf ci := by have h : N = g_nf ci := c4; have hk : k < N := hk; omega
  show _ = vp_V ((List.range (g_nf ci)).map (g_f G I R S.length ci)) k
  rw [hdef k hk]
  simp [vp_V, hk2, g_f, hI, hR, va_rf]
theorem g_arrK {G : gG} {s : State} (hK : va_K G.2.1 g_cl (g_tys G) s) {k : Nat} {ty : FieldType} (hk : (g_tys G)[k]? = some (G.2.2.1 k, ty)) (hp : ∀ C, ty ≠ .object C) : s.vm.findClass ("[" ++ ty.toString) = some (G.2.2.1 k) := by
  have h := (hK.2 k _ hk).2
  cases ty <;> first | exact h | exact absurd rfl (hp _)
theorem go_newI {n : Int32} {N : Nat} (hd : decode μ.2.1 pc = .ok (.newarray .int, 2)) (hw : Cond.arrayClass .int ∈ g_t) (hn : ¬ n < 0) (hN : n.toNatClampNeg = N) (hb : N * 4 ≤ 536870912) (hI : ∀ j, I S.length j = 0) (kk : Go μ d rc rs (pc + 2) ls (.ref S.length :: st) (S ++ [(1, N)]) I R L Q) : Go μ d (rc + 1) (rs + N) pc ls (.int n :: st) S I R L Q := by
  intro l G p e RM s m args below meth c H locs cells slots mc ms lsA Z
  obtain ⟨hC, hRM, ⟨h1, h2, h3⟩, hP, hS, hL⟩ := Z
  refine g_size h3 hP hS fun hz => ?_
  refine va_newaK (atype := .int) hC.1 hC.2.1 (hC.2.2.2.2.2.2.1 _ hw) rfl hd rfl hn hN hb (by omega) (by omega) hz fun H1 cA e1 z1 o1 hA hf => ?_
  have ec : cA = G.2.2.1 0 := Option.some.inj (hf.symm.trans (g_arrK hC.2.2.2.2.2.2.2.2.1.1 (k := 0) rfl (fun _ h => by cases h)))
  subst ec
  refine kk l G p e RM s m args below meth c H1 locs (cells + 1) (slots + N) mc ms lsA ⟨hC, hRM, ⟨by omega, by omega, by simp; omega⟩, g_P_app hP hz (fun q hq => o1 q (by omega)) ?_, g_S_app hS (by omega) (fun q hq => o1 q (by omega)), hL⟩
  show H1[G.1.size + S.length]? = some (vp_cell _ _)
  rw [e1, vp_cell_i]
  congr 2
  funext j
  rw [hI j]
  rfl
theorem go_newB {n : Int32} {N : Nat} (hd : decode μ.2.1 pc = .ok (.newarray .byte, 2)) (hw : Cond.arrayClass .byte ∈ g_t) (hn : ¬ n < 0) (hN : n.toNatClampNeg = N) (hb : N * 1 ≤ 536870912) (hI : ∀ j, I S.length j = 0) (kk : Go μ d rc rs (pc + 2) ls (.ref S.length :: st) (S ++ [(2, N)]) I R L Q) : Go μ d (rc + 1) (rs + N) pc ls (.int n :: st) S I R L Q := by
  intro l G p e RM s m args below meth c H locs cells slots mc ms lsA Z
  obtain ⟨hC, hRM, ⟨h1, h2, h3⟩, hP, hS, hL⟩ := Z
  refine g_size h3 hP hS fun hz => ?_
  refine va_newaK (atype := .byte) hC.1 hC.2.1 (hC.2.2.2.2.2.2.1 _ hw) rfl hd rfl hn hN hb (by omega) (by omega) hz fun H1 cA e1 z1 o1 hA hf => ?_
  have ec : cA = G.2.2.1 1 := Option.some.inj (hf.symm.trans (g_arrK hC.2.2.2.2.2.2.2.2.1.1 (k := 1) rfl (fun _ h => by cases h)))
  subst ec
  refine kk l G p e RM s m args below meth c H1 locs (cells + 1) (slots + N) mc ms lsA ⟨hC, hRM, ⟨by omega, by omega, by simp; omega⟩, g_P_app hP hz (fun q hq => o1 q (by omega)) ?_, g_S_app hS (by omega) (fun q hq => o1 q (by omega)), hL⟩
  show H1[G.1.size + S.length]? = some (vp_cell _ _)
  rw [e1, vp_cell_i]
  congr 2
  funext j
  rw [hI j]
  rfl
theorem go_newL {n : Int32} {N : Nat} (hd : decode μ.2.1 pc = .ok (.newarray .long, 2)) (hw : Cond.arrayClass .long ∈ g_t) (hn : ¬ n < 0) (hN : n.toNatClampNeg = N) (hb : N * 8 ≤ 536870912) (hI : ∀ j, L S.length j = 0) (kk : Go μ d rc rs (pc + 2) ls (.ref S.length :: st) (S ++ [(3, N)]) I R L Q) : Go μ d (rc + 1) (rs + N) pc ls (.int n :: st) S I R L Q := by
  intro l G p e RM s m args below meth c H locs cells slots mc ms lsA Z
  obtain ⟨hC, hRM, ⟨h1, h2, h3⟩, hP, hS, hL⟩ := Z
  refine g_size h3 hP hS fun hz => ?_
  refine va_newaK (atype := .long) hC.1 hC.2.1 (hC.2.2.2.2.2.2.1 _ hw) rfl hd rfl hn hN hb (by omega) (by omega) hz fun H1 cA e1 z1 o1 hA hf => ?_
  have ec : cA = G.2.2.1 2 := Option.some.inj (hf.symm.trans (g_arrK hC.2.2.2.2.2.2.2.2.1.1 (k := 2) rfl (fun _ h => by cases h)))
  subst ec
  refine kk l G p e RM s m args below meth c H1 locs (cells + 1) (slots + N) mc ms lsA ⟨hC, hRM, ⟨by omega, by omega, by simp; omega⟩, g_P_app hP hz (fun q hq => o1 q (by omega)) ?_, g_S_app hS (by omega) (fun q hq => o1 q (by omega)), hL⟩
  show H1[G.1.size + S.length]? = some (vp_cell _ _)
  rw [e1, vp_cell_l]
  congr 2
  funext j
  rw [hI j]
  rfl
theorem go_newA {κ idx : Nat} {C : String} {n : Int32} {N : Nat} (hd : decode μ.2.1 pc = .ok (.anewarray idx, 3)) (hw : Cond.classLink μ.1.cls idx C ∈ g_t) (ht : ∀ G : gG, (g_tys G)[κ + 3]? = some (G.2.2.1 (κ + 3), .object C)) (hO : ∀ (G : gG) (U : State), g_X G U → va_AO C U) (hn : ¬ n < 0) (hN : n.toNatClampNeg = N) (hb : N * 4 ≤ 536870912) (hR : ∀ j, R S.length j = none) (kk : Go μ d rc rs (pc + 3) ls (.ref S.length :: st) (S ++ [(κ + 4, N)]) I R L Q) : Go μ d (rc + 1) (rs + N) pc ls (.int n :: st) S I R L Q := by
  intro l G p e RM s m args below meth c H locs cells slots mc ms lsA Z
  obtain ⟨hC, hRM, ⟨h1, h2, h3⟩, hP, hS, hL⟩ := Z
  subst hN
  refine g_size h3 hP hS fun hz => ?_
  refine W.anew hC.1 hC.2.1 hC.2.2.2.2.2.1 (hC.2.2.2.2.2.2.1 _ hw) (va_AO.use (hO G s hC.2.2.2.2.2.2.2.2.1.2)) rfl hd rfl hn hb (by omega) (by omega) fun cA kA comp f1 f2 f3 f4 => ?_
  obtain ⟨kA', comp', -, -, -, g4⟩ := (hC.2.2.2.2.2.2.2.2.1.1.2 _ _ (ht G)).2
  have ec : cA = G.2.2.1 (κ + 3) := Option.some.inj (f1.symm.trans g4)
  subst ec
  have ho : ∀ q : Nat, q < H.size → (H.push ({ cls := G.2.2.1 (κ + 3), slots := Array.replicate n.toNatClampNeg .null, vm := .none } : Cell))[q]? = H[q]? := fun q hq => by rw [Array.getElem?_push, if_neg (Nat.ne_of_lt hq)]
  have k2 := kk l G p e RM s m args below meth c (H.push ({ cls := G.2.2.1 (κ + 3), slots := Array.replicate n.toNatClampNeg .null, vm := .none } : Cell)) locs (cells + 1) (slots + n.toNatClampNeg) mc ms lsA ⟨hC, hRM, ⟨by omega, by omega, by simp; omega⟩, g_P_app hP hz ho ?_, g_S_app hS (by simp) ho, hL⟩
  · refine W.eq ?_ k2
    simp only [hz]
    rfl
  · show (H.push _)[G.1.size + S.length]? = some (vp_cell _ _)
    rw [← hz, Array.getElem?_push_size, arrV_new, vp_cell_q]
    congr 2
    funext j
    simp [hR j, va_rf]
/-! calls -/
def g_Y (ν : gm) (n : Nat) : Prop := Cond.code ν.1 ν.2.1 ν.2.2.1 ν.2.2.2 ∈ g_t ∧ Cond.initialized ν.1.cls ∈ g_t ∧ (ν.1.cls ≠ "java/lang/invoke/MethodHandle" ∧ ν.1.cls ≠ "java/lang/invoke/VarHandle") ∧ (parseMethodDescriptor ν.1.desc).map (fun d => d.parameters.length) = some n ∧ ν.2.2.1 ≤ 45
def g_YV (ν : gm) (n : Nat) : Prop := g_Y ν n ∧ Cond.instanceMethod ν.1 ∈ g_t ∧ Cond.selects ν.1.cls ν.1 ν.1 ∈ g_t
def g_YS (ν : gm) (n : Nat) : Prop := g_Y ν n ∧ Cond.static ν.1 ∈ g_t
def g_YI (ν : gm) (n : Nat) : Prop := g_Y ν n ∧ Cond.instanceMethod ν.1 ∈ g_t ∧ ν.1.name = "<init>" ∧ ν.2.2.2 = none
theorem g_callB {G : gG} {ν : gm} {n dd rc2 rs2 idx : Nat} {p : Program} {RM : Room} {s : State} {m : MethodId} {args : Array Value} {meth : Method} {c : Code} (hC : g_C μ G p s m args meth c) (hRM : d ≤ RM.frames ∧ 64 * d ≤ RM.locals) (hY : g_Y ν n) (hl : Cond.methodLink μ.1.cls idx ν.1 ∈ g_t) (hdd : dd + 1 ≤ d) : CallB RM s args μ.1.cls idx ν.1 ν.2.1 ν.2.2.1 ν.2.2.2 (g_w ν) { frames := dd, cells := rc2, slots := rs2, locals := 64 * dd } rc2 rs2 n := by
  obtain ⟨y1, y2, y3, y4, y5⟩ := hY
  have hts := hC.2.2.2.2.2.2.1
  refine callB_of n hts (fun w hw => ?_) rfl rfl rfl (hts _ y2) (hts _ hl) ⟨y3.1, y3.2, y4⟩ ⟨by show dd + 1 ≤ _; omega, by show 8 + (ν.2.2.1 + 11) + 64 * dd ≤ _; omega⟩
  rcases List.mem_cons.mp hw with rfl | h
  · exact ⟨y1, Or.inl rfl⟩
  · exact ⟨h, good_of_word (List.mem_filter.mp h).2⟩
theorem g_blind {G : gG} {as : List Value} : FrameBlind (g_P G as S I R L) := fun a U g mk q => ⟨q.1, q.2.1, q.2.2.1, q.2.2.2.1, g_K.same (s := U) rfl q.2.2.2.2⟩
theorem g_run {G : gG} {p : Program} {l : Launch} {e : Env} {RM : Room} {s : State} {m : MethodId} {args : Array Value} {below : List Frame} {meth : Method} {c : Code} {H : Heap} {locs : List Loc} {cells slots mc ms rc2 rs2 : Nat} {lsA : Array Slot} {st0 : List Value} {a : Array Value}
    (Z : g_Z μ d (rc + rc2) (rs + rs2) ls S I R L G p RM s m args meth c H locs cells slots mc ms lsA) (hz : H.size = G.1.size + S.length)
    (hr : va_Run p l e RM s m args below meth c H locs cells slots rc2 rs2 (F0 m pc lsA st0) (st.map (cv G)) (g_q G (fun r S' I' R' L' => Go μ d rc rs (pc + 3) ls (r.toList ++ st) S' I' R' L' Q) rc2 a) (g_A G)) :
    W p l e RM s m args below meth c H locs cells slots (MQ below (g_q G Q mc) args s mc ms (g_A G)) (F0 m pc lsA st0) := by
  intro T hT X
  obtain ⟨v, st₀, t, T', Lc, h0, X', hL, e1, e2, ⟨r, S', I', R', L', hv, hgo, hP', hS', hlen⟩, stp⟩ := hr T hT X
  cases hv
  obtain ⟨hC, hRM, ⟨h1, h2, h3⟩, hP, hS, hLs⟩ := Z
  rw [← e1] at hP' hS'
  rw [h0, hz] at hlen
  have k := hgo l G p e RM s m args below meth c T'.heap (locs ++ Lc) (cells + rc2) (slots + rs2) mc ms lsA ⟨hC, hRM, ⟨by omega, by omega, by omega⟩, hP', ⟨hS'.1, hS'.2.1, fun q hq => by
    rcases List.mem_append.mp hq with h | h
    · exact hS.2.2 q h
    · exact hL q h⟩, hLs⟩
  obtain ⟨t2, a1, b1⟩ := k T' rfl X'
  refine ⟨t2, stp t2 ?_, b1⟩
  cases r with
  | none => exact a1
  | some z => exact a1
theorem go_callV {ν : gm} {n a ci idx dd rc2 rs2 : Nat} (as : List Value) (hd : decode μ.2.1 pc = .ok (.invokevirtual idx, 3)) (hY : g_YV ν n) (hl : Cond.methodLink μ.1.cls idx ν.1 ∈ g_t) (hs : S[a]? = some (0, ci)) (hc : ∃ r, g_cl[ci]? = some r ∧ r.1 = ν.1.cls) (hn : as.length = n) (hst : (st.map fun v => v.category).sum ≤ 8) (hdd : dd + 1 ≤ d) {st0 : List Value} (he : as.reverse ++ .ref a :: st = st0)
    (hM : Mt ν dd rc2 rs2 (.ref a :: as) S I R L (fun r S' I' R' L' => Go μ d rc rs (pc + 3) ls (r.toList ++ st) S' I' R' L' Q)) : Go μ d (rc + rc2) (rs + rs2) pc ls st0 S I R L Q := by
  subst he
  intro l G p e RM s m args below meth c H locs cells slots mc ms lsA Z
  have hC := Z.1
  refine g_size Z.2.2.1.2.2 Z.2.2.2.1 Z.2.2.2.2.1 fun hz => ?_
  obtain ⟨r, hr, hcn⟩ := hc
  have hts := hC.2.2.2.2.2.2.1
  have hcm : (as.map (cv G)).reverse ++ (.ref (G.1.size + a) :: st.map (cv G)) = (as.reverse ++ .ref a :: st).map (cv G) := by simp [cv]
  rw [← hcm]
  have hrecv := va_recv hC.2.2.2.2.2.2.2.2.1.1 Z.2.2.2.1 hr (g_W_at hs)
  rw [hcn] at hrecv
  refine g_run Z hz (va_runV (nL := μ.2.2.1) (C := ν.1.cls) (b := G.1.size + a) (n := n) (rest := st.map (cv G)) ⟨hC.1, hC.2.1, hC.2.2.1, hC.2.2.2.2.2.1, hts⟩ (hM l G) ⟨g_callB hC ⟨Z.2.1.1, Z.2.1.2.1⟩ hY.1 hl hdd, hts _ hY.2.1, hts _ hY.2.2⟩ ⟨g_blind, hrecv, fun U hU hW => ⟨rfl, by rw [hU]; exact hz, by rw [hU]; exact Z.2.2.2.1, by rw [hU]; exact ⟨Z.2.2.2.2.1.1, Z.2.2.2.2.1.2.1, fun _ h => by cases h⟩, g_K.warm hW hC.2.2.2.2.2.2.2.2.1⟩⟩ rfl (by simpa using hn) Z.2.2.2.2.2.1 rfl (lv_room (by rw [cv_cats]; exact hst)) hd ⟨by have := Z.2.2.1.1; have := Z.2.1.2.2.1; omega, by have := Z.2.2.1.2.1; have := Z.2.1.2.2.2; omega⟩)
theorem go_callS {ν : gm} {n idx dd rc2 rs2 : Nat} (as : List Value) (hd : decode μ.2.1 pc = .ok (.invokestatic idx, 3)) (hY : g_YS ν n) (hl : Cond.methodLink μ.1.cls idx ν.1 ∈ g_t) (hn : as.length = n) (hst : (st.map fun v => v.category).sum ≤ 8) (hdd : dd + 1 ≤ d) {st0 : List Value} (he : as.reverse ++ st = st0)
    (hM : Mt ν dd rc2 rs2 as S I R L (fun r S' I' R' L' => Go μ d rc rs (pc + 3) ls (r.toList ++ st) S' I' R' L' Q)) : Go μ d (rc + rc2) (rs + rs2) pc ls st0 S I R L Q := by
  subst he
  intro l G p e RM s m args below meth c H locs cells slots mc ms lsA Z
  have hC := Z.1
  refine g_size Z.2.2.1.2.2 Z.2.2.2.1 Z.2.2.2.2.1 fun hz => ?_
  have hts := hC.2.2.2.2.2.2.1
  have hcm : (as.map (cv G)).reverse ++ st.map (cv G) = (as.reverse ++ st).map (cv G) := by simp
  rw [← hcm]
  refine g_run Z hz (va_runS (nL := μ.2.2.1) (n := n) (rest := st.map (cv G)) ⟨hC.1, hC.2.1, hC.2.2.1, hC.2.2.2.2.2.1, hts⟩ (hM l G) ⟨g_callB hC ⟨Z.2.1.1, Z.2.1.2.1⟩ hY.1 hl hdd, hts _ hY.2⟩ ⟨g_blind, fun U hU hW => ⟨rfl, by rw [hU]; exact hz, by rw [hU]; exact Z.2.2.2.1, by rw [hU]; exact ⟨Z.2.2.2.2.1.1, Z.2.2.2.2.1.2.1, fun _ h => by cases h⟩, g_K.warm hW hC.2.2.2.2.2.2.2.2.1⟩⟩ rfl (by simpa using hn) Z.2.2.2.2.2.1 rfl (lv_room (by rw [cv_cats]; exact hst)) hd ⟨by have := Z.2.2.1.1; have := Z.2.1.2.2.1; omega, by have := Z.2.2.1.2.1; have := Z.2.1.2.2.2; omega⟩)
theorem go_callI {ν : gm} {n a idx dd rc2 rs2 : Nat} (as : List Value) (hd : decode μ.2.1 pc = .ok (.invokespecial idx, 3)) (hY : g_YI ν n) (hl : Cond.methodLink μ.1.cls idx ν.1 ∈ g_t) (hn : as.length = n) (hst : (st.map fun v => v.category).sum ≤ 8) (hdd : dd + 1 ≤ d) {st0 : List Value} (he : as.reverse ++ .ref a :: st = st0)
    (hM : Mt ν dd rc2 rs2 (.ref a :: as) S I R L (fun r S' I' R' L' => Go μ d rc rs (pc + 3) ls (r.toList ++ st) S' I' R' L' Q)) : Go μ d (rc + rc2) (rs + rs2) pc ls st0 S I R L Q := by
  subst he
  intro l G p e RM s m args below meth c H locs cells slots mc ms lsA Z
  have hC := Z.1
  refine g_size Z.2.2.1.2.2 Z.2.2.2.1 Z.2.2.2.2.1 fun hz => ?_
  have hts := hC.2.2.2.2.2.2.1
  have hcm : (as.map (cv G)).reverse ++ (.ref (G.1.size + a) :: st.map (cv G)) = (as.reverse ++ .ref a :: st).map (cv G) := by simp [cv]
  rw [← hcm]
  have hB := g_callB (rc2 := rc2) (rs2 := rs2) hC ⟨Z.2.1.1, Z.2.1.2.1⟩ hY.1 hl hdd
  rw [hY.2.2.2] at hB
  refine g_run Z hz (va_runI (nL := μ.2.2.1) (b := G.1.size + a) (n := n) (rest := st.map (cv G)) ⟨hC.1, hC.2.1, hC.2.2.1, hC.2.2.2.2.2.1, hts⟩ (hM l G) ⟨hB, hY.2.2.1, hts _ hY.2.1⟩ ⟨g_blind, fun U hU hW => ⟨rfl, by rw [hU]; exact hz, by rw [hU]; exact Z.2.2.2.1, by rw [hU]; exact ⟨Z.2.2.2.2.1.1, Z.2.2.2.2.1.2.1, fun _ h => by cases h⟩, g_K.warm hW hC.2.2.2.2.2.2.2.2.1⟩⟩ rfl (by simpa using hn) Z.2.2.2.2.2.1 rfl (lv_room (by rw [cv_cats]; exact hst)) hd ⟨by have := Z.2.2.1.1; have := Z.2.1.2.2.1; omega, by have := Z.2.2.1.2.1; have := Z.2.1.2.2.2; omega⟩)
theorem go_objInit {a idx : Nat} (hd : decode μ.2.1 pc = .ok (.invokespecial idx, 3)) (hl : Cond.methodLink μ.1.cls idx Lib.objectInit ∈ g_t) (h2 : Cond.instanceMethod Lib.objectInit ∈ g_t) (h3 : Cond.code Lib.objectInit ⟨#[0xb1]⟩ 1 none ∈ g_t) (hst : (st.map fun v => v.category).sum ≤ 8) (hdd : 1 ≤ d) (kk : Go μ d rc rs (pc + 3) ls st S I R L Q) : Go μ d rc rs pc ls (.ref a :: st) S I R L Q := by
  intro l G p e RM s m args below meth c H locs cells slots mc ms lsA Z
  have hts := Z.1.2.2.2.2.2.2.1
  exact W.objInit (rest := st.map (cv G)) Z.1.1 Z.1.2.1 Z.1.2.2.2.2.2.1 (hts _ hl) (hts _ h2) (hts _ h3) rfl (Z.2.2.2.2.2.1.trans Z.1.2.2.1.symm) rfl hd (Nat.le_trans hdd Z.2.1.1) (by show 2 * 0 + _ + 12 ≤ _; rw [cv_cats]; have := Z.2.1.2.1; omega) (kk l G p e RM s m args below meth c H locs cells slots mc ms lsA Z)
theorem go_mmax {x y : Int32} {idx : Nat} (hd : decode μ.2.1 pc = .ok (.invokestatic idx, 3)) (hl : Cond.methodLink μ.1.cls idx Lib.Math.max.name ∈ g_t) (h1 : Cond.static Lib.Math.max.name ∈ g_t) (h2 : Cond.initialized "java/lang/Math" ∈ g_t) (h3 : Cond.code Lib.Math.max.name Lib.Math.max.code 2 (some .int) ∈ g_t) (hst : (st.map fun v => v.category).sum ≤ 8) (hdd : 1 ≤ d) (kk : Go μ d rc rs (pc + 3) ls (.int (if x < y then y else x) :: st) S I R L Q) : Go μ d rc rs pc ls (.int y :: .int x :: st) S I R L Q := by
  intro l G p e RM s m args below meth c H locs cells slots mc ms lsA Z
  have hts := Z.1.2.2.2.2.2.2.1
  exact va_mmax Z.1.1 Z.1.2.1 (Z.1.2.2.1.trans Z.2.2.2.2.2.1.symm) Z.1.2.2.2.2.2.1 (hts _ hl) (hts _ h1) (hts _ h2) (hts _ h3) (Nat.le_trans hdd Z.2.1.1) (by rw [cv_cats]; have := Z.2.1.2.1; omega) (by have := Z.2.2.1.1; have := Z.2.1.2.2.1; omega) (by have := Z.2.2.1.2.1; have := Z.2.1.2.2.2; omega) hd (kk l G p e RM s m args below meth c H locs cells slots mc ms lsA Z)
theorem go_mmin {x y : Int32} {idx : Nat} (hd : decode μ.2.1 pc = .ok (.invokestatic idx, 3)) (hl : Cond.methodLink μ.1.cls idx Lib.Math.min.name ∈ g_t) (h1 : Cond.static Lib.Math.min.name ∈ g_t) (h2 : Cond.initialized "java/lang/Math" ∈ g_t) (h3 : Cond.code Lib.Math.min.name Lib.Math.min.code 2 (some .int) ∈ g_t) (hst : (st.map fun v => v.category).sum ≤ 8) (hdd : 1 ≤ d) (kk : Go μ d rc rs (pc + 3) ls (.int (if y < x then y else x) :: st) S I R L Q) : Go μ d rc rs pc ls (.int y :: .int x :: st) S I R L Q := by
  intro l G p e RM s m args below meth c H locs cells slots mc ms lsA Z
  have hts := Z.1.2.2.2.2.2.2.1
  exact va_mmin Z.1.1 Z.1.2.1 (Z.1.2.2.1.trans Z.2.2.2.2.2.1.symm) Z.1.2.2.2.2.2.1 (hts _ hl) (hts _ h1) (hts _ h2) (hts _ h3) (Nat.le_trans hdd Z.2.1.1) (by rw [cv_cats]; have := Z.2.1.2.1; omega) (by have := Z.2.2.1.1; have := Z.2.1.2.2.1; omega) (by have := Z.2.2.1.2.1; have := Z.2.1.2.2.2; omega) hd (kk l G p e RM s m args below meth c H locs cells slots mc ms lsA Z)
theorem go_mabs {x : Int32} {idx : Nat} (hd : decode μ.2.1 pc = .ok (.invokestatic idx, 3)) (hl : Cond.methodLink μ.1.cls idx Lib.Math.abs.name ∈ g_t) (h1 : Cond.static Lib.Math.abs.name ∈ g_t) (h2 : Cond.initialized "java/lang/Math" ∈ g_t) (h3 : Cond.code Lib.Math.abs.name Lib.Math.abs.code 1 (some .int) ∈ g_t) (hst : (st.map fun v => v.category).sum ≤ 8) (hdd : 1 ≤ d) (kk : Go μ d rc rs (pc + 3) ls (.int (if 0 ≤ x then x else 0 - x) :: st) S I R L Q) : Go μ d rc rs pc ls (.int x :: st) S I R L Q := by
  intro l G p e RM s m args below meth c H locs cells slots mc ms lsA Z
  have hts := Z.1.2.2.2.2.2.2.1
  exact va_mabs Z.1.1 Z.1.2.1 (Z.1.2.2.1.trans Z.2.2.2.2.2.1.symm) Z.1.2.2.2.2.2.1 (hts _ hl) (hts _ h1) (hts _ h2) (hts _ h3) (Nat.le_trans hdd Z.2.1.1) (by rw [cv_cats]; have := Z.2.1.2.1; omega) (by have := Z.2.2.1.1; have := Z.2.1.2.2.1; omega) (by have := Z.2.2.1.2.1; have := Z.2.1.2.2.2; omega) hd (kk l G p e RM s m args below meth c H locs cells slots mc ms lsA Z)
/-- a row of ints behind another's -/
def cpy (I : gI) (a c sp dp n : Nat) : gI := fun q => if q = c then va_cpy (I a) (I c) sp dp n else I q
theorem cpy_at (I : gI) (a c sp dp n k : Nat) : cpy I a c sp dp n c k = if dp ≤ k ∧ k < dp + n then I a (sp + (k - dp)) else I c k := by simp [cpy, va_cpy]
theorem cpy_off {I : gI} {a c sp dp n q : Nat} (h : q ≠ c) : cpy I a c sp dp n q = I q := by simp [cpy, h]
theorem go_copy {a c0 n0 n1 idx : Nat} {sp dp n : Int32} (hd : decode μ.2.1 pc = .ok (.invokestatic idx, 3)) (hl : Cond.methodLink μ.1.cls idx arraycopyName ∈ g_t) (h1 : Cond.native arraycopyName ∈ g_t) (h2 : Cond.static arraycopyName ∈ g_t) (h3 : Cond.initialized "java/lang/System" ∈ g_t) (hs0 : S[a]? = some (1, n0)) (hs1 : S[c0]? = some (1, n1)) (b1 : ¬ sp < 0) (b2 : ¬ dp < 0) (b3 : ¬ n < 0) (b4 : sp.toNatClampNeg + n.toNatClampNeg ≤ n0) (b5 : dp.toNatClampNeg + n.toNatClampNeg ≤ n1) (hst : (st.map fun v => v.category).sum ≤ 8) (hdd : nativeFrameWords "java/lang/System" "arraycopy" 5 + 19 ≤ 64 * d)
    (kk : Go μ d rc rs (pc + 3) ls st S (cpy I a c0 sp.toNatClampNeg dp.toNatClampNeg n.toNatClampNeg) R L Q) : Go μ d rc rs pc ls (.int n :: .int dp :: .ref c0 :: .int sp :: .ref a :: st) S I R L Q := by
  intro l G p e RM s m args below meth c H locs cells slots mc ms lsA Z
  have hts := Z.1.2.2.2.2.2.2.1
  refine va_copyi (H0 := G.1) (A := g_A G) (rest := st.map (cv G)) Z.1.1 Z.1.2.1 (Z.1.2.2.1.trans Z.2.2.2.2.2.1.symm) Z.1.2.2.2.2.2.1 (hts _ hl) (hts _ h1) (hts _ h2) (hts _ h3) Z.1.2.2.2.2.2.2.2.2.1.1 Z.2.2.2.1 g_D Z.2.2.2.2.1 a c0 0 0 (g_W_at hs0) (g_W_at hs1) rfl rfl rfl b1 b2 b3 b4 b5 (fun _ _ => rfl) (by have := Z.2.1.1; omega) (by rw [cv_cats]; have := Z.2.1.2.1; omega) hd (fun H1 locs1 hP1 hD1 hS1 => ?_)
  have e0 : va_cpy (I a) (I c0) sp.toNatClampNeg dp.toNatClampNeg n.toNatClampNeg = cpy I a c0 sp.toNatClampNeg dp.toNatClampNeg n.toNatClampNeg c0 := by simp [cpy]
  have hP1 : va_P G.2.1 g_cl ((g_W G S I R L).set c0 (G.1.size + c0, .inl (G.2.2.1 0, n1, .inl (va_cpy (I a) (I c0) sp.toNatClampNeg dp.toNatClampNeg n.toNatClampNeg)))) H1 := hP1
  rw [e0] at hP1
  have e2 : (g_W G S I R L).set c0 (G.1.size + c0, .inl (G.2.2.1 0, n1, .inl (cpy I a c0 sp.toNatClampNeg dp.toNatClampNeg n.toNatClampNeg c0))) = g_W G S (cpy I a c0 sp.toNatClampNeg dp.toNatClampNeg n.toNatClampNeg) R L := g_W_set (I := I) (R := R) (R' := R) (L := L) (L' := L) hs1 (fun z hz => cpy_off hz) (fun _ _ => rfl) (fun _ _ => rfl)
  rw [e2] at hP1
  exact kk l G p e RM s m args below meth c H1 locs1 cells slots mc ms lsA ⟨Z.1, Z.2.1, Z.2.2.1, hP1, hS1, Z.2.2.2.2.2⟩
/-! what lies outside -/
theorem g_S2 {G : gG} {H H2 : Heap} {locs : List Loc} (h0 : va_S (g_A G) G.1 H []) (hS : va_S (g_A G) G.1 H2 locs) (hz : H.size ≤ H2.size) : va_S (g_A G) H H2 locs :=
  ⟨hz, fun q h1 h2 => by
    have hq : q < G.1.size := Nat.not_le.mp h2
    rw [hS.2.1 q hq h2, h0.2.1 q hq h2], hS.2.2⟩
theorem g_Sz {G : gG} {p : Program} {RM : Room} {s : State} {m : MethodId} {args : Array Value} {meth : Method} {c : Code} {H : Heap} {locs : List Loc} {cells slots mc ms : Nat} {lsA : Array Slot} (Z : g_Z μ d rc rs ls S I R L G p RM s m args meth c H locs cells slots mc ms lsA) (hz : H.size = G.1.size + S.length) : va_S (g_A G) s.heap H locs :=
  g_S2 Z.1.2.2.2.2.2.2.2.2.2 Z.2.2.2.2.1 (by have := Z.2.2.1.2.2; omega)
/-- NAMES_OF, out of the reader -/
theorem go_names (hm : μ.1.cls = "SpoonScales$Reader") (hd : decode μ.2.1 pc = .ok (.getstatic 166, 3)) (kk : Go μ d rc rs (pc + 3) ls (.float 1 :: st) S I R L Q) : Go μ d rc rs pc ls st S I R L Q := by
  intro l G p e RM s m args below meth c H locs cells slots mc ms lsA Z
  refine g_size Z.2.2.1.2.2 Z.2.2.2.1 Z.2.2.2.2.1 fun hz => ?_
  have hx := Z.1.2.2.2.2.2.2.2.2.1.2
  have hk := Z.1.2.2.2.2.2.2.2.2.2.2.1
  exact va_getsN (own := "SpoonScales$Reader") Z.1.1 Z.1.2.1 (hx.2.2.1.kept hk) (g_Sz Z hz) (by have := Z.1.2.2.2.2.2.1; rw [hm] at this; exact this) (va_Nw.use rfl hx.2.2.2.2.2.2.2.2.2.2.1) (fun _ h => h) hd (kk l G p e RM s m args below meth c H locs cells slots mc ms lsA Z)
theorem go_choose {idx : Nat} (hd : decode μ.2.1 pc = .ok (.getstatic idx, 3)) (hl : Cond.fieldLink μ.1.cls idx "SpoonScales" "CHOOSE" "[I" ∈ g_t) (kk : Go μ d rc rs (pc + 3) ls (.float 2 :: st) S I R L Q) : Go μ d rc rs pc ls st S I R L Q := by
  intro l G p e RM s m args below meth c H locs cells slots mc ms lsA Z
  refine g_size Z.2.2.1.2.2 Z.2.2.2.1 Z.2.2.2.2.1 fun hz => ?_
  have hx := Z.1.2.2.2.2.2.2.2.2.1.2
  have hk := Z.1.2.2.2.2.2.2.2.2.2.2.1
  exact va_gets Z.1.1 Z.1.2.1 (hx.2.2.2.2.1.kept hk) (g_Sz Z hz) Z.1.2.2.2.2.2.1 (Z.1.2.2.2.2.2.2.1 _ hl) (fun _ h => h) hd (kk l G p e RM s m args below meth c H locs cells slots mc ms lsA Z)
theorem go_names_ld {i : Int32} (hd : decode μ.2.1 pc = .ok (.iaload, 1)) (hin : vp_in i 3) (kk : Go μ d rc rs (pc + 1) ls (.int (g_no.getD i.toNatClampNeg 0) :: st) S I R L Q) : Go μ d rc rs pc ls (.int i :: .float 1 :: st) S I R L Q := by
  intro l G p e RM s m args below meth c H locs cells slots mc ms lsA Z
  refine g_size Z.2.2.1.2.2 Z.2.2.2.1 Z.2.2.2.2.1 fun hz => ?_
  have hx := Z.1.2.2.2.2.2.2.2.2.1.2
  have hk := Z.1.2.2.2.2.2.2.2.2.2.2.1
  exact va_ti Z.1.1 Z.1.2.1 (hx.2.2.2.1.kept hk) (g_Sz Z hz) hin rfl hd (kk l G p e RM s m args below meth c H locs cells slots mc ms lsA Z)
theorem go_choose_ld {i : Int32} (hd : decode μ.2.1 pc = .ok (.iaload, 1)) (hin : vp_in i 49) (kk : Go μ d rc rs (pc + 1) ls (.int (g_ch.getD i.toNatClampNeg 0) :: st) S I R L Q) : Go μ d rc rs pc ls (.int i :: .float 2 :: st) S I R L Q := by
  intro l G p e RM s m args below meth c H locs cells slots mc ms lsA Z
  refine g_size Z.2.2.1.2.2 Z.2.2.2.1 Z.2.2.2.2.1 fun hz => ?_
  have hx := Z.1.2.2.2.2.2.2.2.2.1.2
  have hk := Z.1.2.2.2.2.2.2.2.2.2.2.1
  exact va_ti Z.1.1 Z.1.2.1 (hx.2.2.2.2.2.1.kept hk) (g_Sz Z hz) hin rfl hd (kk l G p e RM s m args below meth c H locs cells slots mc ms lsA Z)
end GN
end
