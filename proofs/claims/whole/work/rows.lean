section
-- ===== PART A: goes FIRST, ahead of the names: the tables' words, and 'selects' of the private methods out of them =====
/-- a private method of a class that the tables say can be made, by its rows of tables_1 -/
def lw_okq (q : MethodName × Nat) : Prop := (q.1.cls ≠ "java/lang/invoke/MethodHandle" ∧ q.1.cls ≠ "java/lang/invoke/VarHandle") ∧ Cond.instantiable q.1.cls q.2 ∈ tables_1 ∧ Cond.privateMethod q.1 ∈ tables_1 ∧ Cond.instanceMethod q.1 ∈ tables_1
theorem lw_p0 : lw_okq (⟨"SpoonScales", "forgetSought", "()V"⟩, 10) := ⟨⟨by decide +kernel, by decide +kernel⟩, List.mem_of_getElem? (i := 18) (by decide +kernel), List.mem_of_getElem? (i := 362) (by decide +kernel), List.mem_of_getElem? (i := 363) (by decide +kernel)⟩
theorem lw_p1 : lw_okq (⟨"SpoonScales", "isEater", "(I)Z"⟩, 10) := ⟨⟨by decide +kernel, by decide +kernel⟩, List.mem_of_getElem? (i := 18) (by decide +kernel), List.mem_of_getElem? (i := 378) (by decide +kernel), List.mem_of_getElem? (i := 379) (by decide +kernel)⟩
theorem lw_p2 : lw_okq (⟨"SpoonScales$Bench", "ruling", "()LSpoonScales$Law;"⟩, 4) := ⟨⟨by decide +kernel, by decide +kernel⟩, List.mem_of_getElem? (i := 32) (by decide +kernel), List.mem_of_getElem? (i := 405) (by decide +kernel), List.mem_of_getElem? (i := 406) (by decide +kernel)⟩
theorem lw_p3 : lw_okq (⟨"SpoonScales$Bench", "nameEater", "(LSpoonScales$Scene;I)V"⟩, 4) := ⟨⟨by decide +kernel, by decide +kernel⟩, List.mem_of_getElem? (i := 32) (by decide +kernel), List.mem_of_getElem? (i := 413) (by decide +kernel), List.mem_of_getElem? (i := 414) (by decide +kernel)⟩
theorem lw_p4 : lw_okq (⟨"SpoonScales$Bench", "reckon", "(LSpoonScales$Law;I)I"⟩, 4) := ⟨⟨by decide +kernel, by decide +kernel⟩, List.mem_of_getElem? (i := 32) (by decide +kernel), List.mem_of_getElem? (i := 417) (by decide +kernel), List.mem_of_getElem? (i := 418) (by decide +kernel)⟩
theorem lw_p5 : lw_okq (⟨"SpoonScales$Bench", "biteOf", "(LSpoonScales$Scene;II)I"⟩, 4) := ⟨⟨by decide +kernel, by decide +kernel⟩, List.mem_of_getElem? (i := 32) (by decide +kernel), List.mem_of_getElem? (i := 437) (by decide +kernel), List.mem_of_getElem? (i := 438) (by decide +kernel)⟩
theorem lw_p6 : lw_okq (⟨"SpoonScales", "putBytes", "(I)V"⟩, 10) := ⟨⟨by decide +kernel, by decide +kernel⟩, List.mem_of_getElem? (i := 18) (by decide +kernel), List.mem_of_getElem? (i := 478) (by decide +kernel), List.mem_of_getElem? (i := 479) (by decide +kernel)⟩
theorem lw_p7 : lw_okq (⟨"SpoonScales$Reader", "advance", "()V"⟩, 15) := ⟨⟨by decide +kernel, by decide +kernel⟩, List.mem_of_getElem? (i := 266) (by decide +kernel), List.mem_of_getElem? (i := 496) (by decide +kernel), List.mem_of_getElem? (i := 497) (by decide +kernel)⟩
theorem lw_p8 : lw_okq (⟨"SpoonScales$Reader", "wordAt", "(II)I"⟩, 15) := ⟨⟨by decide +kernel, by decide +kernel⟩, List.mem_of_getElem? (i := 266) (by decide +kernel), List.mem_of_getElem? (i := 503) (by decide +kernel), List.mem_of_getElem? (i := 504) (by decide +kernel)⟩
theorem lw_p9 : lw_okq (⟨"SpoonScales$Reader", "readNumber", "()V"⟩, 15) := ⟨⟨by decide +kernel, by decide +kernel⟩, List.mem_of_getElem? (i := 266) (by decide +kernel), List.mem_of_getElem? (i := 559) (by decide +kernel), List.mem_of_getElem? (i := 560) (by decide +kernel)⟩
theorem lw_p10 : lw_okq (⟨"SpoonScales$Reader", "readSign", "()V"⟩, 15) := ⟨⟨by decide +kernel, by decide +kernel⟩, List.mem_of_getElem? (i := 266) (by decide +kernel), List.mem_of_getElem? (i := 563) (by decide +kernel), List.mem_of_getElem? (i := 564) (by decide +kernel)⟩
theorem lw_p11 : lw_okq (⟨"SpoonScales$Reader", "readClause", "(I)V"⟩, 15) := ⟨⟨by decide +kernel, by decide +kernel⟩, List.mem_of_getElem? (i := 266) (by decide +kernel), List.mem_of_getElem? (i := 623) (by decide +kernel), List.mem_of_getElem? (i := 624) (by decide +kernel)⟩
theorem lw_p12 : lw_okq (⟨"SpoonScales$Reader", "fail", "(I)V"⟩, 15) := ⟨⟨by decide +kernel, by decide +kernel⟩, List.mem_of_getElem? (i := 266) (by decide +kernel), List.mem_of_getElem? (i := 627) (by decide +kernel), List.mem_of_getElem? (i := 628) (by decide +kernel)⟩
theorem lw_p13 : lw_okq (⟨"SpoonScales$Reader", "readLaw", "(I)V"⟩, 15) := ⟨⟨by decide +kernel, by decide +kernel⟩, List.mem_of_getElem? (i := 266) (by decide +kernel), List.mem_of_getElem? (i := 632) (by decide +kernel), List.mem_of_getElem? (i := 633) (by decide +kernel)⟩
theorem lw_p14 : lw_okq (⟨"SpoonScales$Reader", "readOne", "(I)V"⟩, 15) := ⟨⟨by decide +kernel, by decide +kernel⟩, List.mem_of_getElem? (i := 266) (by decide +kernel), List.mem_of_getElem? (i := 636) (by decide +kernel), List.mem_of_getElem? (i := 637) (by decide +kernel)⟩
theorem lw_p15 : lw_okq (⟨"SpoonScales$Reader", "openUp", "(I)V"⟩, 15) := ⟨⟨by decide +kernel, by decide +kernel⟩, List.mem_of_getElem? (i := 266) (by decide +kernel), List.mem_of_getElem? (i := 646) (by decide +kernel), List.mem_of_getElem? (i := 647) (by decide +kernel)⟩
def lw_privs_1 : List (MethodName × Nat) := [(⟨"SpoonScales", "forgetSought", "()V"⟩, 10), (⟨"SpoonScales", "isEater", "(I)Z"⟩, 10), (⟨"SpoonScales$Bench", "ruling", "()LSpoonScales$Law;"⟩, 4), (⟨"SpoonScales$Bench", "nameEater", "(LSpoonScales$Scene;I)V"⟩, 4), (⟨"SpoonScales$Bench", "reckon", "(LSpoonScales$Law;I)I"⟩, 4), (⟨"SpoonScales$Bench", "biteOf", "(LSpoonScales$Scene;II)I"⟩, 4), (⟨"SpoonScales", "putBytes", "(I)V"⟩, 10), (⟨"SpoonScales$Reader", "advance", "()V"⟩, 15), (⟨"SpoonScales$Reader", "wordAt", "(II)I"⟩, 15), (⟨"SpoonScales$Reader", "readNumber", "()V"⟩, 15), (⟨"SpoonScales$Reader", "readSign", "()V"⟩, 15), (⟨"SpoonScales$Reader", "readClause", "(I)V"⟩, 15), (⟨"SpoonScales$Reader", "fail", "(I)V"⟩, 15), (⟨"SpoonScales$Reader", "readLaw", "(I)V"⟩, 15), (⟨"SpoonScales$Reader", "readOne", "(I)V"⟩, 15), (⟨"SpoonScales$Reader", "openUp", "(I)V"⟩, 15)]
theorem lw_r1 : ∀ q ∈ lw_privs_1, lw_okq q := List.forall_mem_cons.mpr ⟨lw_p0, List.forall_mem_cons.mpr ⟨lw_p1, List.forall_mem_cons.mpr ⟨lw_p2, List.forall_mem_cons.mpr ⟨lw_p3, List.forall_mem_cons.mpr ⟨lw_p4, List.forall_mem_cons.mpr ⟨lw_p5, List.forall_mem_cons.mpr ⟨lw_p6, List.forall_mem_cons.mpr ⟨lw_p7, List.forall_mem_cons.mpr ⟨lw_p8, List.forall_mem_cons.mpr ⟨lw_p9, List.forall_mem_cons.mpr ⟨lw_p10, List.forall_mem_cons.mpr ⟨lw_p11, List.forall_mem_cons.mpr ⟨lw_p12, List.forall_mem_cons.mpr ⟨lw_p13, List.forall_mem_cons.mpr ⟨lw_p14, List.forall_mem_cons.mpr ⟨lw_p15, fun _ h => absurd h List.not_mem_nil⟩⟩⟩⟩⟩⟩⟩⟩⟩⟩⟩⟩⟩⟩⟩⟩
theorem lw_p16 : lw_okq (⟨"SpoonScales$Reader", "putWaiting", "(I)V"⟩, 15) := ⟨⟨by decide +kernel, by decide +kernel⟩, List.mem_of_getElem? (i := 266) (by decide +kernel), List.mem_of_getElem? (i := 650) (by decide +kernel), List.mem_of_getElem? (i := 651) (by decide +kernel)⟩
theorem lw_p17 : lw_okq (⟨"SpoonScales$Reader", "isAheadOfAsk", "()Z"⟩, 15) := ⟨⟨by decide +kernel, by decide +kernel⟩, List.mem_of_getElem? (i := 266) (by decide +kernel), List.mem_of_getElem? (i := 654) (by decide +kernel), List.mem_of_getElem? (i := 655) (by decide +kernel)⟩
theorem lw_p18 : lw_okq (⟨"SpoonScales$Reader", "readBetween", "(I)V"⟩, 15) := ⟨⟨by decide +kernel, by decide +kernel⟩, List.mem_of_getElem? (i := 266) (by decide +kernel), List.mem_of_getElem? (i := 658) (by decide +kernel), List.mem_of_getElem? (i := 659) (by decide +kernel)⟩
theorem lw_p19 : lw_okq (⟨"SpoonScales$Reader", "hold", "()V"⟩, 15) := ⟨⟨by decide +kernel, by decide +kernel⟩, List.mem_of_getElem? (i := 266) (by decide +kernel), List.mem_of_getElem? (i := 662) (by decide +kernel), List.mem_of_getElem? (i := 663) (by decide +kernel)⟩
theorem lw_p20 : lw_okq (⟨"SpoonScales$Reader", "release", "(I)V"⟩, 15) := ⟨⟨by decide +kernel, by decide +kernel⟩, List.mem_of_getElem? (i := 266) (by decide +kernel), List.mem_of_getElem? (i := 669) (by decide +kernel), List.mem_of_getElem? (i := 670) (by decide +kernel)⟩
theorem lw_p21 : lw_okq (⟨"SpoonScales$Reader", "dropWaiting", "()V"⟩, 15) := ⟨⟨by decide +kernel, by decide +kernel⟩, List.mem_of_getElem? (i := 266) (by decide +kernel), List.mem_of_getElem? (i := 673) (by decide +kernel), List.mem_of_getElem? (i := 674) (by decide +kernel)⟩
theorem lw_p22 : lw_okq (⟨"SpoonScales$Reader", "readDeed", "(II)V"⟩, 15) := ⟨⟨by decide +kernel, by decide +kernel⟩, List.mem_of_getElem? (i := 266) (by decide +kernel), List.mem_of_getElem? (i := 680) (by decide +kernel), List.mem_of_getElem? (i := 681) (by decide +kernel)⟩
theorem lw_p23 : lw_okq (⟨"SpoonScales$Reader", "readNumberOf", "(II)I"⟩, 15) := ⟨⟨by decide +kernel, by decide +kernel⟩, List.mem_of_getElem? (i := 266) (by decide +kernel), List.mem_of_getElem? (i := 684) (by decide +kernel), List.mem_of_getElem? (i := 685) (by decide +kernel)⟩
theorem lw_p24 : lw_okq (⟨"SpoonScales$Reader", "expect", "(I)V"⟩, 15) := ⟨⟨by decide +kernel, by decide +kernel⟩, List.mem_of_getElem? (i := 266) (by decide +kernel), List.mem_of_getElem? (i := 688) (by decide +kernel), List.mem_of_getElem? (i := 689) (by decide +kernel)⟩
theorem lw_p25 : lw_okq (⟨"SpoonScales", "isText", "(I)Z"⟩, 10) := ⟨⟨by decide +kernel, by decide +kernel⟩, List.mem_of_getElem? (i := 18) (by decide +kernel), List.mem_of_getElem? (i := 701) (by decide +kernel), List.mem_of_getElem? (i := 702) (by decide +kernel)⟩
theorem lw_p26 : lw_okq (⟨"SpoonScales", "playClause", "(LSpoonScales$Law;I)Z"⟩, 10) := ⟨⟨by decide +kernel, by decide +kernel⟩, List.mem_of_getElem? (i := 18) (by decide +kernel), List.mem_of_getElem? (i := 709) (by decide +kernel), List.mem_of_getElem? (i := 710) (by decide +kernel)⟩
theorem lw_p27 : lw_okq (⟨"SpoonScales", "canBeCalled", "(I)Z"⟩, 10) := ⟨⟨by decide +kernel, by decide +kernel⟩, List.mem_of_getElem? (i := 18) (by decide +kernel), List.mem_of_getElem? (i := 739) (by decide +kernel), List.mem_of_getElem? (i := 740) (by decide +kernel)⟩
theorem lw_p28 : lw_okq (⟨"SpoonScales$Trial", "callRest", "(III)V"⟩, 12) := ⟨⟨by decide +kernel, by decide +kernel⟩, List.mem_of_getElem? (i := 26) (by decide +kernel), List.mem_of_getElem? (i := 754) (by decide +kernel), List.mem_of_getElem? (i := 755) (by decide +kernel)⟩
theorem lw_p29 : lw_okq (⟨"SpoonScales$Trial", "trySpoons", "(II)V"⟩, 12) := ⟨⟨by decide +kernel, by decide +kernel⟩, List.mem_of_getElem? (i := 26) (by decide +kernel), List.mem_of_getElem? (i := 778) (by decide +kernel), List.mem_of_getElem? (i := 779) (by decide +kernel)⟩
theorem lw_p30 : lw_okq (⟨"SpoonScales$Trial", "swaps", "(III)Z"⟩, 12) := ⟨⟨by decide +kernel, by decide +kernel⟩, List.mem_of_getElem? (i := 26) (by decide +kernel), List.mem_of_getElem? (i := 782) (by decide +kernel), List.mem_of_getElem? (i := 783) (by decide +kernel)⟩
theorem lw_p31 : lw_okq (⟨"SpoonScales$Trial", "keepFound", "(I)V"⟩, 12) := ⟨⟨by decide +kernel, by decide +kernel⟩, List.mem_of_getElem? (i := 26) (by decide +kernel), List.mem_of_getElem? (i := 786) (by decide +kernel), List.mem_of_getElem? (i := 787) (by decide +kernel)⟩
def lw_privs_2 : List (MethodName × Nat) := [(⟨"SpoonScales$Reader", "putWaiting", "(I)V"⟩, 15), (⟨"SpoonScales$Reader", "isAheadOfAsk", "()Z"⟩, 15), (⟨"SpoonScales$Reader", "readBetween", "(I)V"⟩, 15), (⟨"SpoonScales$Reader", "hold", "()V"⟩, 15), (⟨"SpoonScales$Reader", "release", "(I)V"⟩, 15), (⟨"SpoonScales$Reader", "dropWaiting", "()V"⟩, 15), (⟨"SpoonScales$Reader", "readDeed", "(II)V"⟩, 15), (⟨"SpoonScales$Reader", "readNumberOf", "(II)I"⟩, 15), (⟨"SpoonScales$Reader", "expect", "(I)V"⟩, 15), (⟨"SpoonScales", "isText", "(I)Z"⟩, 10), (⟨"SpoonScales", "playClause", "(LSpoonScales$Law;I)Z"⟩, 10), (⟨"SpoonScales", "canBeCalled", "(I)Z"⟩, 10), (⟨"SpoonScales$Trial", "callRest", "(III)V"⟩, 12), (⟨"SpoonScales$Trial", "trySpoons", "(II)V"⟩, 12), (⟨"SpoonScales$Trial", "swaps", "(III)Z"⟩, 12), (⟨"SpoonScales$Trial", "keepFound", "(I)V"⟩, 12)]
theorem lw_r2 : ∀ q ∈ lw_privs_2, lw_okq q := List.forall_mem_cons.mpr ⟨lw_p16, List.forall_mem_cons.mpr ⟨lw_p17, List.forall_mem_cons.mpr ⟨lw_p18, List.forall_mem_cons.mpr ⟨lw_p19, List.forall_mem_cons.mpr ⟨lw_p20, List.forall_mem_cons.mpr ⟨lw_p21, List.forall_mem_cons.mpr ⟨lw_p22, List.forall_mem_cons.mpr ⟨lw_p23, List.forall_mem_cons.mpr ⟨lw_p24, List.forall_mem_cons.mpr ⟨lw_p25, List.forall_mem_cons.mpr ⟨lw_p26, List.forall_mem_cons.mpr ⟨lw_p27, List.forall_mem_cons.mpr ⟨lw_p28, List.forall_mem_cons.mpr ⟨lw_p29, List.forall_mem_cons.mpr ⟨lw_p30, List.forall_mem_cons.mpr ⟨lw_p31, fun _ h => absurd h List.not_mem_nil⟩⟩⟩⟩⟩⟩⟩⟩⟩⟩⟩⟩⟩⟩⟩⟩
theorem lw_p32 : lw_okq (⟨"SpoonScales", "mostAlike", "(I)I"⟩, 10) := ⟨⟨by decide +kernel, by decide +kernel⟩, List.mem_of_getElem? (i := 18) (by decide +kernel), List.mem_of_getElem? (i := 813) (by decide +kernel), List.mem_of_getElem? (i := 814) (by decide +kernel)⟩
theorem lw_p33 : lw_okq (⟨"SpoonScales", "priceOf", "(I)I"⟩, 10) := ⟨⟨by decide +kernel, by decide +kernel⟩, List.mem_of_getElem? (i := 18) (by decide +kernel), List.mem_of_getElem? (i := 822) (by decide +kernel), List.mem_of_getElem? (i := 823) (by decide +kernel)⟩
theorem lw_p34 : lw_okq (⟨"SpoonScales", "roomOf", "(I)I"⟩, 10) := ⟨⟨by decide +kernel, by decide +kernel⟩, List.mem_of_getElem? (i := 18) (by decide +kernel), List.mem_of_getElem? (i := 826) (by decide +kernel), List.mem_of_getElem? (i := 827) (by decide +kernel)⟩
theorem lw_p35 : lw_okq (⟨"SpoonScales", "waysTo", "(II)I"⟩, 10) := ⟨⟨by decide +kernel, by decide +kernel⟩, List.mem_of_getElem? (i := 18) (by decide +kernel), List.mem_of_getElem? (i := 843) (by decide +kernel), List.mem_of_getElem? (i := 844) (by decide +kernel)⟩
theorem lw_p36 : lw_okq (⟨"SpoonScalesModel", "copies", "(Z)V"⟩, 48) := ⟨⟨by decide +kernel, by decide +kernel⟩, List.mem_of_getElem? (i := 891) (by decide +kernel), List.mem_of_getElem? (i := 897) (by decide +kernel), List.mem_of_getElem? (i := 898) (by decide +kernel)⟩
theorem lw_p37 : lw_okq (⟨"SpoonScalesModel", "put", "(I)V"⟩, 48) := ⟨⟨by decide +kernel, by decide +kernel⟩, List.mem_of_getElem? (i := 891) (by decide +kernel), List.mem_of_getElem? (i := 1073) (by decide +kernel), List.mem_of_getElem? (i := 1074) (by decide +kernel)⟩
theorem lw_p38 : lw_okq (⟨"SpoonScalesModel", "nextToken", "()V"⟩, 48) := ⟨⟨by decide +kernel, by decide +kernel⟩, List.mem_of_getElem? (i := 891) (by decide +kernel), List.mem_of_getElem? (i := 1085) (by decide +kernel), List.mem_of_getElem? (i := 1086) (by decide +kernel)⟩
theorem lw_p39 : lw_okq (⟨"SpoonScalesModel", "asks", "()V"⟩, 48) := ⟨⟨by decide +kernel, by decide +kernel⟩, List.mem_of_getElem? (i := 891) (by decide +kernel), List.mem_of_getElem? (i := 1121) (by decide +kernel), List.mem_of_getElem? (i := 1122) (by decide +kernel)⟩
theorem lw_p40 : lw_okq (⟨"SpoonScalesModel", "isWord", "(I)Z"⟩, 48) := ⟨⟨by decide +kernel, by decide +kernel⟩, List.mem_of_getElem? (i := 891) (by decide +kernel), List.mem_of_getElem? (i := 1125) (by decide +kernel), List.mem_of_getElem? (i := 1126) (by decide +kernel)⟩
theorem lw_p41 : lw_okq (⟨"SpoonScalesModel", "opensSign", "(I)Z"⟩, 48) := ⟨⟨by decide +kernel, by decide +kernel⟩, List.mem_of_getElem? (i := 891) (by decide +kernel), List.mem_of_getElem? (i := 1129) (by decide +kernel), List.mem_of_getElem? (i := 1130) (by decide +kernel)⟩
theorem lw_p42 : lw_okq (⟨"SpoonScalesModel", "errs", "(I)V"⟩, 48) := ⟨⟨by decide +kernel, by decide +kernel⟩, List.mem_of_getElem? (i := 891) (by decide +kernel), List.mem_of_getElem? (i := 1133) (by decide +kernel), List.mem_of_getElem? (i := 1134) (by decide +kernel)⟩
theorem lw_p43 : lw_okq (⟨"SpoonScalesModel", "opensFrame", "(I)V"⟩, 48) := ⟨⟨by decide +kernel, by decide +kernel⟩, List.mem_of_getElem? (i := 891) (by decide +kernel), List.mem_of_getElem? (i := 1137) (by decide +kernel), List.mem_of_getElem? (i := 1138) (by decide +kernel)⟩
theorem lw_p44 : lw_okq (⟨"SpoonScalesModel", "begins", "()V"⟩, 48) := ⟨⟨by decide +kernel, by decide +kernel⟩, List.mem_of_getElem? (i := 891) (by decide +kernel), List.mem_of_getElem? (i := 1141) (by decide +kernel), List.mem_of_getElem? (i := 1142) (by decide +kernel)⟩
theorem lw_p45 : lw_okq (⟨"SpoonScalesModel", "emits", "(II)V"⟩, 48) := ⟨⟨by decide +kernel, by decide +kernel⟩, List.mem_of_getElem? (i := 891) (by decide +kernel), List.mem_of_getElem? (i := 1145) (by decide +kernel), List.mem_of_getElem? (i := 1146) (by decide +kernel)⟩
theorem lw_p46 : lw_okq (⟨"SpoonScalesModel", "oneIsOver", "()V"⟩, 48) := ⟨⟨by decide +kernel, by decide +kernel⟩, List.mem_of_getElem? (i := 891) (by decide +kernel), List.mem_of_getElem? (i := 1149) (by decide +kernel), List.mem_of_getElem? (i := 1150) (by decide +kernel)⟩
theorem lw_p47 : lw_okq (⟨"SpoonScalesModel", "top", "()I"⟩, 48) := ⟨⟨by decide +kernel, by decide +kernel⟩, List.mem_of_getElem? (i := 891) (by decide +kernel), List.mem_of_getElem? (i := 1153) (by decide +kernel), List.mem_of_getElem? (i := 1154) (by decide +kernel)⟩
def lw_privs_3 : List (MethodName × Nat) := [(⟨"SpoonScales", "mostAlike", "(I)I"⟩, 10), (⟨"SpoonScales", "priceOf", "(I)I"⟩, 10), (⟨"SpoonScales", "roomOf", "(I)I"⟩, 10), (⟨"SpoonScales", "waysTo", "(II)I"⟩, 10), (⟨"SpoonScalesModel", "copies", "(Z)V"⟩, 48), (⟨"SpoonScalesModel", "put", "(I)V"⟩, 48), (⟨"SpoonScalesModel", "nextToken", "()V"⟩, 48), (⟨"SpoonScalesModel", "asks", "()V"⟩, 48), (⟨"SpoonScalesModel", "isWord", "(I)Z"⟩, 48), (⟨"SpoonScalesModel", "opensSign", "(I)Z"⟩, 48), (⟨"SpoonScalesModel", "errs", "(I)V"⟩, 48), (⟨"SpoonScalesModel", "opensFrame", "(I)V"⟩, 48), (⟨"SpoonScalesModel", "begins", "()V"⟩, 48), (⟨"SpoonScalesModel", "emits", "(II)V"⟩, 48), (⟨"SpoonScalesModel", "oneIsOver", "()V"⟩, 48), (⟨"SpoonScalesModel", "top", "()I"⟩, 48)]
theorem lw_r3 : ∀ q ∈ lw_privs_3, lw_okq q := List.forall_mem_cons.mpr ⟨lw_p32, List.forall_mem_cons.mpr ⟨lw_p33, List.forall_mem_cons.mpr ⟨lw_p34, List.forall_mem_cons.mpr ⟨lw_p35, List.forall_mem_cons.mpr ⟨lw_p36, List.forall_mem_cons.mpr ⟨lw_p37, List.forall_mem_cons.mpr ⟨lw_p38, List.forall_mem_cons.mpr ⟨lw_p39, List.forall_mem_cons.mpr ⟨lw_p40, List.forall_mem_cons.mpr ⟨lw_p41, List.forall_mem_cons.mpr ⟨lw_p42, List.forall_mem_cons.mpr ⟨lw_p43, List.forall_mem_cons.mpr ⟨lw_p44, List.forall_mem_cons.mpr ⟨lw_p45, List.forall_mem_cons.mpr ⟨lw_p46, List.forall_mem_cons.mpr ⟨lw_p47, fun _ h => absurd h List.not_mem_nil⟩⟩⟩⟩⟩⟩⟩⟩⟩⟩⟩⟩⟩⟩⟩⟩
theorem lw_p48 : lw_okq (⟨"SpoonScalesModel", "isSign", "(I)Z"⟩, 48) := ⟨⟨by decide +kernel, by decide +kernel⟩, List.mem_of_getElem? (i := 891) (by decide +kernel), List.mem_of_getElem? (i := 1160) (by decide +kernel), List.mem_of_getElem? (i := 1161) (by decide +kernel)⟩
theorem lw_p49 : lw_okq (⟨"SpoonScalesModel", "goesOn", "()V"⟩, 48) := ⟨⟨by decide +kernel, by decide +kernel⟩, List.mem_of_getElem? (i := 891) (by decide +kernel), List.mem_of_getElem? (i := 1164) (by decide +kernel), List.mem_of_getElem? (i := 1165) (by decide +kernel)⟩
theorem lw_p50 : lw_okq (⟨"SpoonScalesModel", "waitsFor", "(I)V"⟩, 48) := ⟨⟨by decide +kernel, by decide +kernel⟩, List.mem_of_getElem? (i := 891) (by decide +kernel), List.mem_of_getElem? (i := 1168) (by decide +kernel), List.mem_of_getElem? (i := 1169) (by decide +kernel)⟩
theorem lw_p51 : lw_okq (⟨"SpoonScalesModel", "works", "(I)V"⟩, 48) := ⟨⟨by decide +kernel, by decide +kernel⟩, List.mem_of_getElem? (i := 891) (by decide +kernel), List.mem_of_getElem? (i := 1175) (by decide +kernel), List.mem_of_getElem? (i := 1176) (by decide +kernel)⟩
theorem lw_p52 : lw_okq (⟨"SpoonScalesModel", "askIsOver", "()V"⟩, 48) := ⟨⟨by decide +kernel, by decide +kernel⟩, List.mem_of_getElem? (i := 891) (by decide +kernel), List.mem_of_getElem? (i := 1182) (by decide +kernel), List.mem_of_getElem? (i := 1183) (by decide +kernel)⟩
theorem lw_p53 : lw_okq (⟨"SpoonScalesModel", "clauseIsOver", "()V"⟩, 48) := ⟨⟨by decide +kernel, by decide +kernel⟩, List.mem_of_getElem? (i := 891) (by decide +kernel), List.mem_of_getElem? (i := 1186) (by decide +kernel), List.mem_of_getElem? (i := 1187) (by decide +kernel)⟩
theorem lw_p54 : lw_okq (⟨"SpoonScalesModel", "asksOn", "()V"⟩, 48) := ⟨⟨by decide +kernel, by decide +kernel⟩, List.mem_of_getElem? (i := 891) (by decide +kernel), List.mem_of_getElem? (i := 1190) (by decide +kernel), List.mem_of_getElem? (i := 1191) (by decide +kernel)⟩
theorem lw_p55 : lw_okq (⟨"SpoonScalesModel", "clause", "()V"⟩, 48) := ⟨⟨by decide +kernel, by decide +kernel⟩, List.mem_of_getElem? (i := 891) (by decide +kernel), List.mem_of_getElem? (i := 1194) (by decide +kernel), List.mem_of_getElem? (i := 1195) (by decide +kernel)⟩
theorem lw_p56 : lw_okq (⟨"SpoonScalesModel", "wasTold", "(I)Z"⟩, 48) := ⟨⟨by decide +kernel, by decide +kernel⟩, List.mem_of_getElem? (i := 891) (by decide +kernel), List.mem_of_getElem? (i := 1198) (by decide +kernel), List.mem_of_getElem? (i := 1199) (by decide +kernel)⟩
theorem lw_p57 : lw_okq (⟨"SpoonScalesModel", "number", "(II)I"⟩, 48) := ⟨⟨by decide +kernel, by decide +kernel⟩, List.mem_of_getElem? (i := 891) (by decide +kernel), List.mem_of_getElem? (i := 1202) (by decide +kernel), List.mem_of_getElem? (i := 1203) (by decide +kernel)⟩
theorem lw_p58 : lw_okq (⟨"SpoonScalesModel", "wants", "(I)V"⟩, 48) := ⟨⟨by decide +kernel, by decide +kernel⟩, List.mem_of_getElem? (i := 891) (by decide +kernel), List.mem_of_getElem? (i := 1206) (by decide +kernel), List.mem_of_getElem? (i := 1207) (by decide +kernel)⟩
theorem lw_p59 : lw_okq (⟨"SpoonScalesModel", "isEater", "(I)Z"⟩, 48) := ⟨⟨by decide +kernel, by decide +kernel⟩, List.mem_of_getElem? (i := 891) (by decide +kernel), List.mem_of_getElem? (i := 1222) (by decide +kernel), List.mem_of_getElem? (i := 1223) (by decide +kernel)⟩
theorem lw_p60 : lw_okq (⟨"SpoonScalesModel", "keepsStep", "()V"⟩, 48) := ⟨⟨by decide +kernel, by decide +kernel⟩, List.mem_of_getElem? (i := 891) (by decide +kernel), List.mem_of_getElem? (i := 1226) (by decide +kernel), List.mem_of_getElem? (i := 1227) (by decide +kernel)⟩
theorem lw_p61 : lw_okq (⟨"SpoonScalesModel", "laysWorld", "()V"⟩, 48) := ⟨⟨by decide +kernel, by decide +kernel⟩, List.mem_of_getElem? (i := 891) (by decide +kernel), List.mem_of_getElem? (i := 1234) (by decide +kernel), List.mem_of_getElem? (i := 1235) (by decide +kernel)⟩
theorem lw_p62 : lw_okq (⟨"SpoonScalesModel", "spoonOf", "(II)I"⟩, 48) := ⟨⟨by decide +kernel, by decide +kernel⟩, List.mem_of_getElem? (i := 891) (by decide +kernel), List.mem_of_getElem? (i := 1238) (by decide +kernel), List.mem_of_getElem? (i := 1239) (by decide +kernel)⟩
theorem lw_p63 : lw_okq (⟨"SpoonScalesModel", "stillHolds", "(I)I"⟩, 48) := ⟨⟨by decide +kernel, by decide +kernel⟩, List.mem_of_getElem? (i := 891) (by decide +kernel), List.mem_of_getElem? (i := 1242) (by decide +kernel), List.mem_of_getElem? (i := 1243) (by decide +kernel)⟩
def lw_privs_4 : List (MethodName × Nat) := [(⟨"SpoonScalesModel", "isSign", "(I)Z"⟩, 48), (⟨"SpoonScalesModel", "goesOn", "()V"⟩, 48), (⟨"SpoonScalesModel", "waitsFor", "(I)V"⟩, 48), (⟨"SpoonScalesModel", "works", "(I)V"⟩, 48), (⟨"SpoonScalesModel", "askIsOver", "()V"⟩, 48), (⟨"SpoonScalesModel", "clauseIsOver", "()V"⟩, 48), (⟨"SpoonScalesModel", "asksOn", "()V"⟩, 48), (⟨"SpoonScalesModel", "clause", "()V"⟩, 48), (⟨"SpoonScalesModel", "wasTold", "(I)Z"⟩, 48), (⟨"SpoonScalesModel", "number", "(II)I"⟩, 48), (⟨"SpoonScalesModel", "wants", "(I)V"⟩, 48), (⟨"SpoonScalesModel", "isEater", "(I)Z"⟩, 48), (⟨"SpoonScalesModel", "keepsStep", "()V"⟩, 48), (⟨"SpoonScalesModel", "laysWorld", "()V"⟩, 48), (⟨"SpoonScalesModel", "spoonOf", "(II)I"⟩, 48), (⟨"SpoonScalesModel", "stillHolds", "(I)I"⟩, 48)]
theorem lw_r4 : ∀ q ∈ lw_privs_4, lw_okq q := List.forall_mem_cons.mpr ⟨lw_p48, List.forall_mem_cons.mpr ⟨lw_p49, List.forall_mem_cons.mpr ⟨lw_p50, List.forall_mem_cons.mpr ⟨lw_p51, List.forall_mem_cons.mpr ⟨lw_p52, List.forall_mem_cons.mpr ⟨lw_p53, List.forall_mem_cons.mpr ⟨lw_p54, List.forall_mem_cons.mpr ⟨lw_p55, List.forall_mem_cons.mpr ⟨lw_p56, List.forall_mem_cons.mpr ⟨lw_p57, List.forall_mem_cons.mpr ⟨lw_p58, List.forall_mem_cons.mpr ⟨lw_p59, List.forall_mem_cons.mpr ⟨lw_p60, List.forall_mem_cons.mpr ⟨lw_p61, List.forall_mem_cons.mpr ⟨lw_p62, List.forall_mem_cons.mpr ⟨lw_p63, fun _ h => absurd h List.not_mem_nil⟩⟩⟩⟩⟩⟩⟩⟩⟩⟩⟩⟩⟩⟩⟩⟩
theorem lw_p64 : lw_okq (⟨"SpoonScalesModel", "ordersOf", "(I)I"⟩, 48) := ⟨⟨by decide +kernel, by decide +kernel⟩, List.mem_of_getElem? (i := 891) (by decide +kernel), List.mem_of_getElem? (i := 1246) (by decide +kernel), List.mem_of_getElem? (i := 1247) (by decide +kernel)⟩
theorem lw_p65 : lw_okq (⟨"SpoonScalesModel", "names", "(I)V"⟩, 48) := ⟨⟨by decide +kernel, by decide +kernel⟩, List.mem_of_getElem? (i := 891) (by decide +kernel), List.mem_of_getElem? (i := 1250) (by decide +kernel), List.mem_of_getElem? (i := 1251) (by decide +kernel)⟩
theorem lw_p66 : lw_okq (⟨"SpoonScalesModel", "saysOf", "(I)J"⟩, 48) := ⟨⟨by decide +kernel, by decide +kernel⟩, List.mem_of_getElem? (i := 891) (by decide +kernel), List.mem_of_getElem? (i := 1254) (by decide +kernel), List.mem_of_getElem? (i := 1255) (by decide +kernel)⟩
theorem lw_p67 : lw_okq (⟨"SpoonScalesModel", "isGuilty", "(I)Z"⟩, 48) := ⟨⟨by decide +kernel, by decide +kernel⟩, List.mem_of_getElem? (i := 891) (by decide +kernel), List.mem_of_getElem? (i := 1276) (by decide +kernel), List.mem_of_getElem? (i := 1277) (by decide +kernel)⟩
theorem lw_p68 : lw_okq (⟨"SpoonScalesModel", "tilt", "()I"⟩, 48) := ⟨⟨by decide +kernel, by decide +kernel⟩, List.mem_of_getElem? (i := 891) (by decide +kernel), List.mem_of_getElem? (i := 1280) (by decide +kernel), List.mem_of_getElem? (i := 1281) (by decide +kernel)⟩
theorem lw_p69 : lw_okq (⟨"SpoonScalesModel", "draw", "(I)I"⟩, 48) := ⟨⟨by decide +kernel, by decide +kernel⟩, List.mem_of_getElem? (i := 891) (by decide +kernel), List.mem_of_getElem? (i := 1288) (by decide +kernel), List.mem_of_getElem? (i := 1289) (by decide +kernel)⟩
theorem lw_p70 : lw_okq (⟨"SpoonScalesModel", "laysOrder", "(II)V"⟩, 48) := ⟨⟨by decide +kernel, by decide +kernel⟩, List.mem_of_getElem? (i := 891) (by decide +kernel), List.mem_of_getElem? (i := 1319) (by decide +kernel), List.mem_of_getElem? (i := 1320) (by decide +kernel)⟩
theorem lw_p71 : lw_okq (⟨"SpoonScalesModel", "eats", "(II)I"⟩, 48) := ⟨⟨by decide +kernel, by decide +kernel⟩, List.mem_of_getElem? (i := 891) (by decide +kernel), List.mem_of_getElem? (i := 1323) (by decide +kernel), List.mem_of_getElem? (i := 1324) (by decide +kernel)⟩
theorem lw_p72 : lw_okq (⟨"SpoonScalesModel", "acquits", "(II)Z"⟩, 48) := ⟨⟨by decide +kernel, by decide +kernel⟩, List.mem_of_getElem? (i := 891) (by decide +kernel), List.mem_of_getElem? (i := 1334) (by decide +kernel), List.mem_of_getElem? (i := 1335) (by decide +kernel)⟩
theorem lw_p73 : lw_okq (⟨"SpoonScalesModel", "toldMore", "(I)I"⟩, 48) := ⟨⟨by decide +kernel, by decide +kernel⟩, List.mem_of_getElem? (i := 891) (by decide +kernel), List.mem_of_getElem? (i := 1385) (by decide +kernel), List.mem_of_getElem? (i := 1386) (by decide +kernel)⟩
def lw_privs_5 : List (MethodName × Nat) := [(⟨"SpoonScalesModel", "ordersOf", "(I)I"⟩, 48), (⟨"SpoonScalesModel", "names", "(I)V"⟩, 48), (⟨"SpoonScalesModel", "saysOf", "(I)J"⟩, 48), (⟨"SpoonScalesModel", "isGuilty", "(I)Z"⟩, 48), (⟨"SpoonScalesModel", "tilt", "()I"⟩, 48), (⟨"SpoonScalesModel", "draw", "(I)I"⟩, 48), (⟨"SpoonScalesModel", "laysOrder", "(II)V"⟩, 48), (⟨"SpoonScalesModel", "eats", "(II)I"⟩, 48), (⟨"SpoonScalesModel", "acquits", "(II)Z"⟩, 48), (⟨"SpoonScalesModel", "toldMore", "(I)I"⟩, 48)]
theorem lw_r5 : ∀ q ∈ lw_privs_5, lw_okq q := List.forall_mem_cons.mpr ⟨lw_p64, List.forall_mem_cons.mpr ⟨lw_p65, List.forall_mem_cons.mpr ⟨lw_p66, List.forall_mem_cons.mpr ⟨lw_p67, List.forall_mem_cons.mpr ⟨lw_p68, List.forall_mem_cons.mpr ⟨lw_p69, List.forall_mem_cons.mpr ⟨lw_p70, List.forall_mem_cons.mpr ⟨lw_p71, List.forall_mem_cons.mpr ⟨lw_p72, List.forall_mem_cons.mpr ⟨lw_p73, fun _ h => absurd h List.not_mem_nil⟩⟩⟩⟩⟩⟩⟩⟩⟩⟩
def lw_privs : List (MethodName × Nat) := lw_privs_1 ++ (lw_privs_2 ++ (lw_privs_3 ++ (lw_privs_4 ++ (lw_privs_5))))
def lw_tbl : List Cond := k2_sels lw_privs ++ tables_1
theorem lw_privs_ok : ∀ q ∈ lw_privs, lw_okq q := by
  show ∀ q ∈ lw_privs_1 ++ (lw_privs_2 ++ (lw_privs_3 ++ (lw_privs_4 ++ (lw_privs_5)))), lw_okq q
  exact List.forall_mem_append.mpr ⟨lw_r1, List.forall_mem_append.mpr ⟨lw_r2, List.forall_mem_append.mpr ⟨lw_r3, List.forall_mem_append.mpr ⟨lw_r4, lw_r5⟩⟩⟩⟩
end
section
def RX0 : String := "SpoonScales$Bench"
def TX0 : u_T := fun k => match k with
  | 0 => ("SpoonScales$Bench", "court", "LSpoonScales$Court;", true)
  | 1 => ("SpoonScales$Bench", "laws", "[LSpoonScales$Law;", true)
  | 2 => ("SpoonScales$Bench", "values", "[I", true)
  | _ => ("SpoonScales$Bench", "stack", "[I", true)
def tyX0 : Nat → FieldType := fun k => match k with
  | 0 => .object "SpoonScales$Court"
  | 1 => .array (.object "SpoonScales$Law")
  | 2 => .array .int
  | _ => .array .int
abbrev wsX00 : List Cond := u_ws RX0 TX0 4
theorem nmX0 : ∀ a, a < 4 → ∀ b, b < 4 → a ≠ b → (TX0 a).2.1 ≠ (TX0 b).2.1 := by decide +kernel
theorem tyX0_ok : ∀ k, k < 4 → parseFieldDescriptor (TX0 k).2.2.1 = some (tyX0 k) := by decide +kernel
abbrev cX0_init : ByteArray := prog_2_method_1_code
def yX0_init : MethodName := ⟨RX0, "<init>", "()V"⟩
abbrev cX0_spoonful : ByteArray := prog_2_method_2_code
def yX0_spoonful : MethodName := ⟨RX0, "spoonful", "(LSpoonScales$Scene;II)I"⟩
abbrev cX0_roomIn : ByteArray := prog_2_method_3_code
def yX0_roomIn : MethodName := ⟨RX0, "roomIn", "(LSpoonScales$Scene;I)I"⟩
abbrev cX0_isGuilty : ByteArray := prog_2_method_4_code
def yX0_isGuilty : MethodName := ⟨RX0, "isGuilty", "(LSpoonScales$Scene;I)Z"⟩
abbrev cX0_biteOf : ByteArray := prog_2_method_5_code
def yX0_biteOf : MethodName := ⟨RX0, "biteOf", "(LSpoonScales$Scene;II)I"⟩
abbrev cX0_ruling : ByteArray := prog_2_method_6_code
def yX0_ruling : MethodName := ⟨RX0, "ruling", "()LSpoonScales$Law;"⟩
abbrev cX0_nameEater : ByteArray := prog_2_method_7_code
def yX0_nameEater : MethodName := ⟨RX0, "nameEater", "(LSpoonScales$Scene;I)V"⟩
abbrev cX0_reckon : ByteArray := prog_2_method_8_code
def yX0_reckon : MethodName := ⟨RX0, "reckon", "(LSpoonScales$Law;I)I"⟩
abbrev cX0_isValue : ByteArray := prog_2_method_9_code
def yX0_isValue : MethodName := ⟨RX0, "isValue", "(I)Z"⟩
abbrev cX0_combine : ByteArray := prog_2_method_10_code
def yX0_combine : MethodName := ⟨RX0, "combine", "(III)I"⟩
def RX1 : String := "SpoonScales$Court"
def TX1 : u_T := fun k => match k with
  | 0 => ("SpoonScales$Court", "now", "LSpoonScales$Scene;", true)
  | 1 => ("SpoonScales$Court", "stepScenes", "[LSpoonScales$Scene;", true)
  | 2 => ("SpoonScales$Court", "steps", "I", false)
  | 3 => ("SpoonScales$Court", "hunger", "[I", true)
  | 4 => ("SpoonScales$Court", "stomachs", "[I", true)
  | 5 => ("SpoonScales$Court", "price", "[I", true)
  | 6 => ("SpoonScales$Court", "eaters", "I", false)
  | 7 => ("SpoonScales$Court", "spoonRows", "[I", true)
  | 8 => ("SpoonScales$Court", "dentRows", "[I", true)
  | 9 => ("SpoonScales$Court", "texts", "I", false)
  | 10 => ("SpoonScales$Court", "ruling", "I", false)
  | 11 => ("SpoonScales$Court", "fitting", "I", false)
  | 12 => ("SpoonScales$Court", "tests", "I", false)
  | 13 => ("SpoonScales$Court", "toldGrains", "[I", true)
  | _ => ("SpoonScales$Court", "told", "I", false)
def tyX1 : Nat → FieldType := fun k => match k with
  | 0 => .object "SpoonScales$Scene"
  | 1 => .array (.object "SpoonScales$Scene")
  | 2 => .int
  | 3 => .array .int
  | 4 => .array .int
  | 5 => .array .int
  | 6 => .int
  | 7 => .array .int
  | 8 => .array .int
  | 9 => .int
  | 10 => .int
  | 11 => .int
  | 12 => .int
  | 13 => .array .int
  | _ => .int
abbrev wsX10 : List Cond := u_ws RX1 TX1 15
theorem nmX1 : ∀ a, a < 15 → ∀ b, b < 15 → a ≠ b → (TX1 a).2.1 ≠ (TX1 b).2.1 := by decide +kernel
theorem tyX1_ok : ∀ k, k < 15 → parseFieldDescriptor (TX1 k).2.2.1 = some (tyX1 k) := by decide +kernel
abbrev cX1_init : ByteArray := prog_3_method_1_code
def yX1_init : MethodName := ⟨RX1, "<init>", "()V"⟩
abbrev cX1_copyFrom : ByteArray := prog_3_method_2_code
def yX1_copyFrom : MethodName := ⟨RX1, "copyFrom", "(LSpoonScales$Court;)V"⟩
abbrev cX1_keepStep : ByteArray := prog_3_method_3_code
def yX1_keepStep : MethodName := ⟨RX1, "keepStep", "()V"⟩
abbrev cX1_writeSpoon : ByteArray := prog_3_method_4_code
def yX1_writeSpoon : MethodName := ⟨RX1, "writeSpoon", "(III)V"⟩
abbrev cX1_writeDent : ByteArray := prog_3_method_5_code
def yX1_writeDent : MethodName := ⟨RX1, "writeDent", "(II)V"⟩
abbrev cX1_contradict : ByteArray := prog_3_method_6_code
def yX1_contradict : MethodName := ⟨RX1, "contradict", "(II)Z"⟩
abbrev cX1_untold : ByteArray := prog_3_method_7_code
def yX1_untold : MethodName := ⟨RX1, "untold", "(I)I"⟩
abbrev cX1_forgetTold : ByteArray := prog_3_method_8_code
def yX1_forgetTold : MethodName := ⟨RX1, "forgetTold", "()V"⟩
def RX2 : String := "SpoonScales$Law"
def TX2 : u_T := fun k => match k with
  | 0 => ("SpoonScales$Law", "code", "[I", true)
  | 1 => ("SpoonScales$Law", "length", "I", false)
  | 2 => ("SpoonScales$Law", "from", "[I", true)
  | 3 => ("SpoonScales$Law", "till", "[I", true)
  | 4 => ("SpoonScales$Law", "verbs", "[I", true)
  | 5 => ("SpoonScales$Law", "firsts", "[I", true)
  | 6 => ("SpoonScales$Law", "seconds", "[I", true)
  | _ => ("SpoonScales$Law", "clauses", "I", false)
def tyX2 : Nat → FieldType := fun k => match k with
  | 0 => .array .int
  | 1 => .int
  | 2 => .array .int
  | 3 => .array .int
  | 4 => .array .int
  | 5 => .array .int
  | 6 => .array .int
  | _ => .int
abbrev wsX20 : List Cond := u_ws RX2 TX2 8
theorem nmX2 : ∀ a, a < 8 → ∀ b, b < 8 → a ≠ b → (TX2 a).2.1 ≠ (TX2 b).2.1 := by decide +kernel
theorem tyX2_ok : ∀ k, k < 8 → parseFieldDescriptor (TX2 k).2.2.1 = some (tyX2 k) := by decide +kernel
abbrev cX2_init : ByteArray := prog_4_method_1_code
def yX2_init : MethodName := ⟨RX2, "<init>", "()V"⟩
abbrev cX2_wipe : ByteArray := prog_4_method_2_code
def yX2_wipe : MethodName := ⟨RX2, "wipe", "()V"⟩
abbrev cX2_has : ByteArray := prog_4_method_3_code
def yX2_has : MethodName := ⟨RX2, "has", "(I)Z"⟩
abbrev cX2_emit : ByteArray := prog_4_method_4_code
def yX2_emit : MethodName := ⟨RX2, "emit", "(I)V"⟩
def RX3 : String := "SpoonScales$Reader"
def TX3 : u_T := fun k => match k with
  | 0 => ("SpoonScales$Reader", "tape", "[I", true)
  | 1 => ("SpoonScales$Reader", "tapeLength", "I", false)
  | 2 => ("SpoonScales$Reader", "at", "I", false)
  | 3 => ("SpoonScales$Reader", "token", "I", false)
  | 4 => ("SpoonScales$Reader", "place", "I", false)
  | 5 => ("SpoonScales$Reader", "value", "I", false)
  | 6 => ("SpoonScales$Reader", "law", "LSpoonScales$Law;", false)
  | 7 => ("SpoonScales$Reader", "fault", "I", false)
  | 8 => ("SpoonScales$Reader", "faultPlace", "I", false)
  | 9 => ("SpoonScales$Reader", "waiting", "[I", true)
  | 10 => ("SpoonScales$Reader", "waits", "I", false)
  | 11 => ("SpoonScales$Reader", "open", "I", false)
  | 12 => ("SpoonScales$Reader", "brackets", "I", false)
  | 13 => ("SpoonScales$Reader", "wantsOne", "Z", false)
  | _ => ("SpoonScales$Reader", "compared", "Z", false)
def tyX3 : Nat → FieldType := fun k => match k with
  | 0 => .array .int
  | 1 => .int
  | 2 => .int
  | 3 => .int
  | 4 => .int
  | 5 => .int
  | 6 => .object "SpoonScales$Law"
  | 7 => .int
  | 8 => .int
  | 9 => .array .int
  | 10 => .int
  | 11 => .int
  | 12 => .int
  | 13 => .boolean
  | _ => .boolean
abbrev wsX30 : List Cond := u_ws RX3 TX3 15
theorem nmX3 : ∀ a, a < 15 → ∀ b, b < 15 → a ≠ b → (TX3 a).2.1 ≠ (TX3 b).2.1 := by decide +kernel
theorem tyX3_ok : ∀ k, k < 15 → parseFieldDescriptor (TX3 k).2.2.1 = some (tyX3 k) := by decide +kernel
abbrev cX3_init : ByteArray := prog_5_method_1_code
def yX3_init : MethodName := ⟨RX3, "<init>", "()V"⟩
abbrev cX3_read : ByteArray := prog_5_method_2_code
def yX3_read : MethodName := ⟨RX3, "read", "(ILSpoonScales$Law;)V"⟩
abbrev cX3_fail : ByteArray := prog_5_method_3_code
def yX3_fail : MethodName := ⟨RX3, "fail", "(I)V"⟩
abbrev cX3_advance : ByteArray := prog_5_method_4_code
def yX3_advance : MethodName := ⟨RX3, "advance", "()V"⟩
abbrev cX3_isLetter : ByteArray := prog_5_method_5_code
def yX3_isLetter : MethodName := ⟨RX3, "isLetter", "(I)Z"⟩
abbrev cX3_isDigit : ByteArray := prog_5_method_6_code
def yX3_isDigit : MethodName := ⟨RX3, "isDigit", "(I)Z"⟩
abbrev cX3_wordAt : ByteArray := prog_5_method_7_code
def yX3_wordAt : MethodName := ⟨RX3, "wordAt", "(II)I"⟩
abbrev cX3_readNumber : ByteArray := prog_5_method_8_code
def yX3_readNumber : MethodName := ⟨RX3, "readNumber", "()V"⟩
abbrev cX3_readSign : ByteArray := prog_5_method_9_code
def yX3_readSign : MethodName := ⟨RX3, "readSign", "()V"⟩
abbrev cX3_readClause : ByteArray := prog_5_method_10_code
def yX3_readClause : MethodName := ⟨RX3, "readClause", "(I)V"⟩
abbrev cX3_readDeed : ByteArray := prog_5_method_11_code
def yX3_readDeed : MethodName := ⟨RX3, "readDeed", "(II)V"⟩
abbrev cX3_expect : ByteArray := prog_5_method_12_code
def yX3_expect : MethodName := ⟨RX3, "expect", "(I)V"⟩
abbrev cX3_readNumberOf : ByteArray := prog_5_method_13_code
def yX3_readNumberOf : MethodName := ⟨RX3, "readNumberOf", "(II)I"⟩
abbrev cX3_readLaw : ByteArray := prog_5_method_14_code
def yX3_readLaw : MethodName := ⟨RX3, "readLaw", "(I)V"⟩
abbrev cX3_readOne : ByteArray := prog_5_method_15_code
def yX3_readOne : MethodName := ⟨RX3, "readOne", "(I)V"⟩
abbrev cX3_readBetween : ByteArray := prog_5_method_16_code
def yX3_readBetween : MethodName := ⟨RX3, "readBetween", "(I)V"⟩
abbrev cX3_isComparison : ByteArray := prog_5_method_17_code
def yX3_isComparison : MethodName := ⟨RX3, "isComparison", "(I)Z"⟩
abbrev cX3_isAheadOfAsk : ByteArray := prog_5_method_18_code
def yX3_isAheadOfAsk : MethodName := ⟨RX3, "isAheadOfAsk", "()Z"⟩
abbrev cX3_openUp : ByteArray := prog_5_method_19_code
def yX3_openUp : MethodName := ⟨RX3, "openUp", "(I)V"⟩
abbrev cX3_hold : ByteArray := prog_5_method_20_code
def yX3_hold : MethodName := ⟨RX3, "hold", "()V"⟩
abbrev cX3_putWaiting : ByteArray := prog_5_method_21_code
def yX3_putWaiting : MethodName := ⟨RX3, "putWaiting", "(I)V"⟩
abbrev cX3_dropWaiting : ByteArray := prog_5_method_22_code
def yX3_dropWaiting : MethodName := ⟨RX3, "dropWaiting", "()V"⟩
abbrev cX3_release : ByteArray := prog_5_method_23_code
def yX3_release : MethodName := ⟨RX3, "release", "(I)V"⟩
abbrev cX3_bindingOf : ByteArray := prog_5_method_24_code
def yX3_bindingOf : MethodName := ⟨RX3, "bindingOf", "(I)I"⟩
def RX4 : String := "SpoonScales$Scene"
def TX4 : u_T := fun k => match k with
  | 0 => ("SpoonScales$Scene", "pots", "[I", true)
  | 1 => ("SpoonScales$Scene", "where", "[I", true)
  | 2 => ("SpoonScales$Scene", "eaten", "[I", true)
  | 3 => ("SpoonScales$Scene", "spoons", "I", false)
  | 4 => ("SpoonScales$Scene", "dents", "I", false)
  | _ => ("SpoonScales$Scene", "x", "I", false)
def tyX4 : Nat → FieldType := fun k => match k with
  | 0 => .array .int
  | 1 => .array .int
  | 2 => .array .int
  | 3 => .int
  | 4 => .int
  | _ => .int
abbrev wsX40 : List Cond := u_ws RX4 TX4 6
theorem nmX4 : ∀ a, a < 6 → ∀ b, b < 6 → a ≠ b → (TX4 a).2.1 ≠ (TX4 b).2.1 := by decide +kernel
theorem tyX4_ok : ∀ k, k < 6 → parseFieldDescriptor (TX4 k).2.2.1 = some (tyX4 k) := by decide +kernel
abbrev cX4_init : ByteArray := prog_6_method_1_code
def yX4_init : MethodName := ⟨RX4, "<init>", "()V"⟩
abbrev cX4_copyFrom : ByteArray := prog_6_method_2_code
def yX4_copyFrom : MethodName := ⟨RX4, "copyFrom", "(LSpoonScales$Scene;)V"⟩
abbrev cX4_tilt : ByteArray := prog_6_method_3_code
def yX4_tilt : MethodName := ⟨RX4, "tilt", "()I"⟩
abbrev cX4_drawPot : ByteArray := prog_6_method_4_code
def yX4_drawPot : MethodName := ⟨RX4, "drawPot", "()I"⟩
abbrev cX4_eat : ByteArray := prog_6_method_5_code
def yX4_eat : MethodName := ⟨RX4, "eat", "(III)V"⟩
abbrev cX4_giveBack : ByteArray := prog_6_method_6_code
def yX4_giveBack : MethodName := ⟨RX4, "giveBack", "(III)V"⟩
def RX5 : String := "SpoonScales$Trial"
def TX5 : u_T := fun k => match k with
  | 0 => ("SpoonScales$Trial", "bench", "LSpoonScales$Bench;", true)
  | 1 => ("SpoonScales$Trial", "court", "LSpoonScales$Court;", true)
  | 2 => ("SpoonScales$Trial", "scene", "LSpoonScales$Scene;", true)
  | 3 => ("SpoonScales$Trial", "path", "[I", true)
  | 4 => ("SpoonScales$Trial", "amounts", "[I", true)
  | 5 => ("SpoonScales$Trial", "best", "[I", true)
  | 6 => ("SpoonScales$Trial", "bestTilt", "I", false)
  | 7 => ("SpoonScales$Trial", "acquitting", "[I", true)
  | 8 => ("SpoonScales$Trial", "found", "I", false)
  | 9 => ("SpoonScales$Trial", "foundHoney", "I", false)
  | 10 => ("SpoonScales$Trial", "judged", "I", false)
  | _ => ("SpoonScales$Trial", "goal", "I", false)
def tyX5 : Nat → FieldType := fun k => match k with
  | 0 => .object "SpoonScales$Bench"
  | 1 => .object "SpoonScales$Court"
  | 2 => .object "SpoonScales$Scene"
  | 3 => .array .int
  | 4 => .array .int
  | 5 => .array .int
  | 6 => .int
  | 7 => .array .int
  | 8 => .int
  | 9 => .int
  | 10 => .int
  | _ => .int
abbrev wsX50 : List Cond := u_ws RX5 TX5 12
theorem nmX5 : ∀ a, a < 12 → ∀ b, b < 12 → a ≠ b → (TX5 a).2.1 ≠ (TX5 b).2.1 := by decide +kernel
theorem tyX5_ok : ∀ k, k < 12 → parseFieldDescriptor (TX5 k).2.2.1 = some (tyX5 k) := by decide +kernel
abbrev cX5_init : ByteArray := prog_7_method_1_code
def yX5_init : MethodName := ⟨RX5, "<init>", "()V"⟩
abbrev cX5_leavesJust : ByteArray := prog_7_method_2_code
def yX5_leavesJust : MethodName := ⟨RX5, "leavesJust", "(III)Z"⟩
abbrev cX5_callInBestOrder : ByteArray := prog_7_method_3_code
def yX5_callInBestOrder : MethodName := ⟨RX5, "callInBestOrder", "(II)V"⟩
abbrev cX5_callRest : ByteArray := prog_7_method_4_code
def yX5_callRest : MethodName := ⟨RX5, "callRest", "(III)V"⟩
abbrev cX5_seekAcquittal : ByteArray := prog_7_method_5_code
def yX5_seekAcquittal : MethodName := ⟨RX5, "seekAcquittal", "(I)V"⟩
abbrev cX5_trySpoons : ByteArray := prog_7_method_6_code
def yX5_trySpoons : MethodName := ⟨RX5, "trySpoons", "(II)V"⟩
abbrev cX5_keepFound : ByteArray := prog_7_method_7_code
def yX5_keepFound : MethodName := ⟨RX5, "keepFound", "(I)V"⟩
abbrev cX5_swaps : ByteArray := prog_7_method_8_code
def yX5_swaps : MethodName := ⟨RX5, "swaps", "(III)Z"⟩
def RX6 : String := "SpoonScales"
def TX6 : u_T := fun k => match k with
  | 0 => ("SpoonScales", "trial", "LSpoonScales$Trial;", true)
  | 1 => ("SpoonScales", "bench", "LSpoonScales$Bench;", true)
  | 2 => ("SpoonScales", "court", "LSpoonScales$Court;", true)
  | 3 => ("SpoonScales", "kept", "LSpoonScales$Court;", true)
  | 4 => ("SpoonScales", "reader", "LSpoonScales$Reader;", true)
  | 5 => ("SpoonScales", "rooms", "[I", true)
  | 6 => ("SpoonScales", "tapeLength", "I", false)
  | 7 => ("SpoonScales", "latestFault", "I", false)
  | 8 => ("SpoonScales", "latestPlace", "I", false)
  | _ => ("SpoonScales", "soughtSide", "I", false)
def tyX6 : Nat → FieldType := fun k => match k with
  | 0 => .object "SpoonScales$Trial"
  | 1 => .object "SpoonScales$Bench"
  | 2 => .object "SpoonScales$Court"
  | 3 => .object "SpoonScales$Court"
  | 4 => .object "SpoonScales$Reader"
  | 5 => .array .int
  | 6 => .int
  | 7 => .int
  | 8 => .int
  | _ => .int
abbrev wsX60 : List Cond := u_ws RX6 TX6 10
theorem nmX6 : ∀ a, a < 10 → ∀ b, b < 10 → a ≠ b → (TX6 a).2.1 ≠ (TX6 b).2.1 := by decide +kernel
theorem tyX6_ok : ∀ k, k < 10 → parseFieldDescriptor (TX6 k).2.2.1 = some (tyX6 k) := by decide +kernel
abbrev cX6_init : ByteArray := prog_1_method_1_code
def yX6_init : MethodName := ⟨RX6, "<init>", "()V"⟩
abbrev cX6_pot : ByteArray := prog_1_method_2_code
def yX6_pot : MethodName := ⟨RX6, "pot", "(III)Z"⟩
abbrev cX6_eater : ByteArray := prog_1_method_3_code
def yX6_eater : MethodName := ⟨RX6, "eater", "(III)I"⟩
abbrev cX6_seed : ByteArray := prog_1_method_4_code
def yX6_seed : MethodName := ⟨RX6, "seed", "(I)Z"⟩
abbrev cX6_sit : ByteArray := prog_1_method_5_code
def yX6_sit : MethodName := ⟨RX6, "sit", "(II)Z"⟩
abbrev cX6_spoon : ByteArray := prog_1_method_6_code
def yX6_spoon : MethodName := ⟨RX6, "spoon", "(II)I"⟩
abbrev cX6_judge : ByteArray := prog_1_method_7_code
def yX6_judge : MethodName := ⟨RX6, "judge", "(I)I"⟩
abbrev cX6_flies : ByteArray := prog_1_method_8_code
def yX6_flies : MethodName := ⟨RX6, "flies", "(I)I"⟩
abbrev cX6_feed : ByteArray := prog_1_method_9_code
def yX6_feed : MethodName := ⟨RX6, "feed", "(IIIII)I"⟩
abbrev cX6_end : ByteArray := prog_1_method_10_code
def yX6_end : MethodName := ⟨RX6, "end", "(I)I"⟩
abbrev cX6_text : ByteArray := prog_1_method_11_code
def yX6_text : MethodName := ⟨RX6, "text", "()I"⟩
abbrev cX6_fault : ByteArray := prog_1_method_12_code
def yX6_fault : MethodName := ⟨RX6, "fault", "(I)I"⟩
abbrev cX6_by : ByteArray := prog_1_method_13_code
def yX6_by : MethodName := ⟨RX6, "by", "(I)Z"⟩
abbrev cX6_played : ByteArray := prog_1_method_14_code
def yX6_played : MethodName := ⟨RX6, "played", "(I)I"⟩
abbrev cX6_undo : ByteArray := prog_1_method_15_code
def yX6_undo : MethodName := ⟨RX6, "undo", "()I"⟩
abbrev cX6_of : ByteArray := prog_1_method_16_code
def yX6_of : MethodName := ⟨RX6, "of", "(II)I"⟩
abbrev cX6_written : ByteArray := prog_1_method_17_code
def yX6_written : MethodName := ⟨RX6, "written", "(II)I"⟩
abbrev cX6_dent : ByteArray := prog_1_method_18_code
def yX6_dent : MethodName := ⟨RX6, "dent", "(II)I"⟩
abbrev cX6_called : ByteArray := prog_1_method_19_code
def yX6_called : MethodName := ⟨RX6, "called", "(III)I"⟩
abbrev cX6_acquitted : ByteArray := prog_1_method_20_code
def yX6_acquitted : MethodName := ⟨RX6, "acquitted", "(II)I"⟩
abbrev cX6_sets : ByteArray := prog_1_method_21_code
def yX6_sets : MethodName := ⟨RX6, "sets", "(IIII)I"⟩
abbrev cX6_tested : ByteArray := prog_1_method_22_code
def yX6_tested : MethodName := ⟨RX6, "tested", "(II)I"⟩
abbrev cX6_fits : ByteArray := prog_1_method_23_code
def yX6_fits : MethodName := ⟨RX6, "fits", "()I"⟩
abbrev cX6_next : ByteArray := prog_1_method_24_code
def yX6_next : MethodName := ⟨RX6, "next", "()I"⟩
abbrev cX6_hired : ByteArray := prog_1_method_25_code
def yX6_hired : MethodName := ⟨RX6, "hired", "(I)I"⟩
abbrev cX6_contrary : ByteArray := prog_1_method_26_code
def yX6_contrary : MethodName := ⟨RX6, "contrary", "()I"⟩
abbrev cX6_odds : ByteArray := prog_1_method_27_code
def yX6_odds : MethodName := ⟨RX6, "odds", "(IIZ)J"⟩
abbrev cX6_tell : ByteArray := prog_1_method_28_code
def yX6_tell : MethodName := ⟨RX6, "tell", "(II)I"⟩
abbrev cX6_liars : ByteArray := prog_1_method_29_code
def yX6_liars : MethodName := ⟨RX6, "liars", "()I"⟩
abbrev cX6_inWhoseName : ByteArray := prog_1_method_30_code
def yX6_inWhoseName : MethodName := ⟨RX6, "inWhoseName", "(I)I"⟩
abbrev cX6_image : ByteArray := prog_1_method_31_code
def yX6_image : MethodName := ⟨RX6, "image", "()I"⟩
abbrev cX6_back : ByteArray := prog_1_method_32_code
def yX6_back : MethodName := ⟨RX6, "back", "()I"⟩
abbrev cX6_about : ByteArray := prog_1_method_33_code
def yX6_about : MethodName := ⟨RX6, "about", "(I)I"⟩
abbrev cX6_isSide : ByteArray := prog_1_method_34_code
def yX6_isSide : MethodName := ⟨RX6, "isSide", "(I)Z"⟩
abbrev cX6_isKind : ByteArray := prog_1_method_35_code
def yX6_isKind : MethodName := ⟨RX6, "isKind", "(I)Z"⟩
abbrev cX6_isEater : ByteArray := prog_1_method_36_code
def yX6_isEater : MethodName := ⟨RX6, "isEater", "(I)Z"⟩
abbrev cX6_isText : ByteArray := prog_1_method_37_code
def yX6_isText : MethodName := ⟨RX6, "isText", "(I)Z"⟩
abbrev cX6_forgetSought : ByteArray := prog_1_method_38_code
def yX6_forgetSought : MethodName := ⟨RX6, "forgetSought", "()V"⟩
abbrev cX6_putBytes : ByteArray := prog_1_method_39_code
def yX6_putBytes : MethodName := ⟨RX6, "putBytes", "(I)V"⟩
abbrev cX6_playClause : ByteArray := prog_1_method_40_code
def yX6_playClause : MethodName := ⟨RX6, "playClause", "(LSpoonScales$Law;I)Z"⟩
abbrev cX6_canBeCalled : ByteArray := prog_1_method_41_code
def yX6_canBeCalled : MethodName := ⟨RX6, "canBeCalled", "(I)Z"⟩
abbrev cX6_hang : ByteArray := prog_1_method_42_code
def yX6_hang : MethodName := ⟨RX6, "hang", "(I)I"⟩
abbrev cX6_mostAlike : ByteArray := prog_1_method_43_code
def yX6_mostAlike : MethodName := ⟨RX6, "mostAlike", "(I)I"⟩
abbrev cX6_priceOf : ByteArray := prog_1_method_44_code
def yX6_priceOf : MethodName := ⟨RX6, "priceOf", "(I)I"⟩
abbrev cX6_roomOf : ByteArray := prog_1_method_45_code
def yX6_roomOf : MethodName := ⟨RX6, "roomOf", "(I)I"⟩
abbrev cX6_waysTo : ByteArray := prog_1_method_46_code
def yX6_waysTo : MethodName := ⟨RX6, "waysTo", "(II)I"⟩
abbrev cX6_chosen : ByteArray := prog_1_method_47_code
def yX6_chosen : MethodName := ⟨RX6, "chosen", "(II)I"⟩
def RX7 : String := "SpoonScalesModel"
def TX7 : u_T := fun k => match k with
  | 0 => ("SpoonScalesModel", "a", "[I", true)
  | 1 => ("SpoonScalesModel", "image", "[I", true)
  | 2 => ("SpoonScalesModel", "tape", "[B", true)
  | 3 => ("SpoonScalesModel", "taped", "I", false)
  | 4 => ("SpoonScalesModel", "fault", "I", false)
  | 5 => ("SpoonScalesModel", "faultAt", "I", false)
  | 6 => ("SpoonScalesModel", "clauses", "[I", true)
  | 7 => ("SpoonScalesModel", "clauseWord", "[I", true)
  | 8 => ("SpoonScalesModel", "clauseAt", "[I", true)
  | 9 => ("SpoonScalesModel", "clauseOne", "[I", true)
  | 10 => ("SpoonScalesModel", "clauseTwo", "[I", true)
  | 11 => ("SpoonScalesModel", "order", "[I", true)
  | 12 => ("SpoonScalesModel", "value", "[I", true)
  | 13 => ("SpoonScalesModel", "length", "I", false)
  | 14 => ("SpoonScalesModel", "at", "I", false)
  | 15 => ("SpoonScalesModel", "token", "I", false)
  | 16 => ("SpoonScalesModel", "sort", "I", false)
  | 17 => ("SpoonScalesModel", "told", "I", false)
  | 18 => ("SpoonScalesModel", "wrong", "I", false)
  | 19 => ("SpoonScalesModel", "wrongAt", "I", false)
  | 20 => ("SpoonScalesModel", "open", "I", false)
  | 21 => ("SpoonScalesModel", "frames", "I", false)
  | 22 => ("SpoonScalesModel", "frame", "[I", true)
  | 23 => ("SpoonScalesModel", "compare", "[I", true)
  | 24 => ("SpoonScalesModel", "waits", "I", false)
  | 25 => ("SpoonScalesModel", "wait", "[I", true)
  | 26 => ("SpoonScalesModel", "waitFrame", "[I", true)
  | 27 => ("SpoonScalesModel", "state", "I", false)
  | 28 => ("SpoonScalesModel", "newClauses", "I", false)
  | 29 => ("SpoonScalesModel", "newKind", "I", false)
  | 30 => ("SpoonScalesModel", "newWord", "[I", true)
  | 31 => ("SpoonScalesModel", "newAt", "[I", true)
  | 32 => ("SpoonScalesModel", "newOne", "[I", true)
  | 33 => ("SpoonScalesModel", "newTwo", "[I", true)
  | 34 => ("SpoonScalesModel", "newOrders", "I", false)
  | 35 => ("SpoonScalesModel", "newOrder", "[I", true)
  | 36 => ("SpoonScalesModel", "newValue", "[I", true)
  | 37 => ("SpoonScalesModel", "name", "[I", true)
  | 38 => ("SpoonScalesModel", "pile", "[J", true)
  | 39 => ("SpoonScalesModel", "pots", "[I", true)
  | 40 => ("SpoonScalesModel", "ate", "[I", true)
  | 41 => ("SpoonScalesModel", "eatenSpoons", "I", false)
  | 42 => ("SpoonScalesModel", "callable", "[I", true)
  | 43 => ("SpoonScalesModel", "called", "[I", true)
  | 44 => ("SpoonScalesModel", "best", "[I", true)
  | 45 => ("SpoonScalesModel", "row", "[I", true)
  | 46 => ("SpoonScalesModel", "bestRow", "[I", true)
  | _ => ("SpoonScalesModel", "leastHoney", "I", false)
def tyX7 : Nat → FieldType := fun k => match k with
  | 0 => .array .int
  | 1 => .array .int
  | 2 => .array .byte
  | 3 => .int
  | 4 => .int
  | 5 => .int
  | 6 => .array .int
  | 7 => .array .int
  | 8 => .array .int
  | 9 => .array .int
  | 10 => .array .int
  | 11 => .array .int
  | 12 => .array .int
  | 13 => .int
  | 14 => .int
  | 15 => .int
  | 16 => .int
  | 17 => .int
  | 18 => .int
  | 19 => .int
  | 20 => .int
  | 21 => .int
  | 22 => .array .int
  | 23 => .array .int
  | 24 => .int
  | 25 => .array .int
  | 26 => .array .int
  | 27 => .int
  | 28 => .int
  | 29 => .int
  | 30 => .array .int
  | 31 => .array .int
  | 32 => .array .int
  | 33 => .array .int
  | 34 => .int
  | 35 => .array .int
  | 36 => .array .int
  | 37 => .array .int
  | 38 => .array .long
  | 39 => .array .int
  | 40 => .array .int
  | 41 => .int
  | 42 => .array .int
  | 43 => .array .int
  | 44 => .array .int
  | 45 => .array .int
  | 46 => .array .int
  | _ => .int
abbrev wsX70 : List Cond := u_ws RX7 TX7 48
theorem nmX7 : ∀ a, a < 48 → ∀ b, b < 48 → a ≠ b → (TX7 a).2.1 ≠ (TX7 b).2.1 := by decide +kernel
theorem tyX7_ok : ∀ k, k < 48 → parseFieldDescriptor (TX7 k).2.2.1 = some (tyX7 k) := by decide +kernel
abbrev cX7_init : ByteArray := prog_9_method_1_code
def yX7_init : MethodName := ⟨RX7, "<init>", "()V"⟩
abbrev cX7_in : ByteArray := prog_9_method_2_code
def yX7_in : MethodName := ⟨RX7, "in", "(III)Z"⟩
abbrev cX7_copies : ByteArray := prog_9_method_3_code
def yX7_copies : MethodName := ⟨RX7, "copies", "(Z)V"⟩
abbrev cX7_isEater : ByteArray := prog_9_method_4_code
def yX7_isEater : MethodName := ⟨RX7, "isEater", "(I)Z"⟩
abbrev cX7_isOne : ByteArray := prog_9_method_5_code
def yX7_isOne : MethodName := ⟨RX7, "isOne", "(I)Z"⟩
abbrev cX7_pot : ByteArray := prog_9_method_6_code
def yX7_pot : MethodName := ⟨RX7, "pot", "(III)Z"⟩
abbrev cX7_eater : ByteArray := prog_9_method_7_code
def yX7_eater : MethodName := ⟨RX7, "eater", "(III)I"⟩
abbrev cX7_seed : ByteArray := prog_9_method_8_code
def yX7_seed : MethodName := ⟨RX7, "seed", "(I)Z"⟩
abbrev cX7_keepsStep : ByteArray := prog_9_method_9_code
def yX7_keepsStep : MethodName := ⟨RX7, "keepsStep", "()V"⟩
abbrev cX7_undo : ByteArray := prog_9_method_10_code
def yX7_undo : MethodName := ⟨RX7, "undo", "()I"⟩
abbrev cX7_put : ByteArray := prog_9_method_11_code
def yX7_put : MethodName := ⟨RX7, "put", "(I)V"⟩
abbrev cX7_feed : ByteArray := prog_9_method_12_code
def yX7_feed : MethodName := ⟨RX7, "feed", "(IIIII)I"⟩
abbrev cX7_end : ByteArray := prog_9_method_13_code
def yX7_end : MethodName := ⟨RX7, "end", "(I)I"⟩
abbrev cX7_isLetter : ByteArray := prog_9_method_14_code
def yX7_isLetter : MethodName := ⟨RX7, "isLetter", "(I)Z"⟩
abbrev cX7_wordOf : ByteArray := prog_9_method_15_code
def yX7_wordOf : MethodName := ⟨RX7, "wordOf", "(J)I"⟩
abbrev cX7_nextToken : ByteArray := prog_9_method_16_code
def yX7_nextToken : MethodName := ⟨RX7, "nextToken", "()V"⟩
abbrev cX7_isSign : ByteArray := prog_9_method_17_code
def yX7_isSign : MethodName := ⟨RX7, "isSign", "(I)Z"⟩
abbrev cX7_isWord : ByteArray := prog_9_method_18_code
def yX7_isWord : MethodName := ⟨RX7, "isWord", "(I)Z"⟩
abbrev cX7_errs : ByteArray := prog_9_method_19_code
def yX7_errs : MethodName := ⟨RX7, "errs", "(I)V"⟩
abbrev cX7_emits : ByteArray := prog_9_method_20_code
def yX7_emits : MethodName := ⟨RX7, "emits", "(II)V"⟩
abbrev cX7_opensFrame : ByteArray := prog_9_method_21_code
def yX7_opensFrame : MethodName := ⟨RX7, "opensFrame", "(I)V"⟩
abbrev cX7_top : ByteArray := prog_9_method_22_code
def yX7_top : MethodName := ⟨RX7, "top", "()I"⟩
abbrev cX7_opensSign : ByteArray := prog_9_method_23_code
def yX7_opensSign : MethodName := ⟨RX7, "opensSign", "(I)Z"⟩
abbrev cX7_rank : ByteArray := prog_9_method_24_code
def yX7_rank : MethodName := ⟨RX7, "rank", "(I)I"⟩
abbrev cX7_works : ByteArray := prog_9_method_25_code
def yX7_works : MethodName := ⟨RX7, "works", "(I)V"⟩
abbrev cX7_waitsFor : ByteArray := prog_9_method_26_code
def yX7_waitsFor : MethodName := ⟨RX7, "waitsFor", "(I)V"⟩
abbrev cX7_asks : ByteArray := prog_9_method_27_code
def yX7_asks : MethodName := ⟨RX7, "asks", "()V"⟩
abbrev cX7_mayName : ByteArray := prog_9_method_28_code
def yX7_mayName : MethodName := ⟨RX7, "mayName", "(II)Z"⟩
abbrev cX7_begins : ByteArray := prog_9_method_29_code
def yX7_begins : MethodName := ⟨RX7, "begins", "()V"⟩
abbrev cX7_oneIsOver : ByteArray := prog_9_method_30_code
def yX7_oneIsOver : MethodName := ⟨RX7, "oneIsOver", "()V"⟩
abbrev cX7_askIsOver : ByteArray := prog_9_method_31_code
def yX7_askIsOver : MethodName := ⟨RX7, "askIsOver", "()V"⟩
abbrev cX7_isAsking : ByteArray := prog_9_method_32_code
def yX7_isAsking : MethodName := ⟨RX7, "isAsking", "(I)Z"⟩
abbrev cX7_goesOn : ByteArray := prog_9_method_33_code
def yX7_goesOn : MethodName := ⟨RX7, "goesOn", "()V"⟩
abbrev cX7_asksOn : ByteArray := prog_9_method_34_code
def yX7_asksOn : MethodName := ⟨RX7, "asksOn", "()V"⟩
abbrev cX7_clauseIsOver : ByteArray := prog_9_method_35_code
def yX7_clauseIsOver : MethodName := ⟨RX7, "clauseIsOver", "()V"⟩
abbrev cX7_number : ByteArray := prog_9_method_36_code
def yX7_number : MethodName := ⟨RX7, "number", "(II)I"⟩
abbrev cX7_wasTold : ByteArray := prog_9_method_37_code
def yX7_wasTold : MethodName := ⟨RX7, "wasTold", "(I)Z"⟩
abbrev cX7_wants : ByteArray := prog_9_method_38_code
def yX7_wants : MethodName := ⟨RX7, "wants", "(I)V"⟩
abbrev cX7_clause : ByteArray := prog_9_method_39_code
def yX7_clause : MethodName := ⟨RX7, "clause", "()V"⟩
abbrev cX7_text : ByteArray := prog_9_method_40_code
def yX7_text : MethodName := ⟨RX7, "text", "()I"⟩
abbrev cX7_fault : ByteArray := prog_9_method_41_code
def yX7_fault : MethodName := ⟨RX7, "fault", "(I)I"⟩
abbrev cX7_bound : ByteArray := prog_9_method_42_code
def yX7_bound : MethodName := ⟨RX7, "bound", "(J)J"⟩
abbrev cX7_worked : ByteArray := prog_9_method_43_code
def yX7_worked : MethodName := ⟨RX7, "worked", "(IJJ)J"⟩
abbrev cX7_saysOf : ByteArray := prog_9_method_44_code
def yX7_saysOf : MethodName := ⟨RX7, "saysOf", "(I)J"⟩
abbrev cX7_by : ByteArray := prog_9_method_45_code
def yX7_by : MethodName := ⟨RX7, "by", "(I)Z"⟩
abbrev cX7_ordersOf : ByteArray := prog_9_method_46_code
def yX7_ordersOf : MethodName := ⟨RX7, "ordersOf", "(I)I"⟩
abbrev cX7_laysWorld : ByteArray := prog_9_method_47_code
def yX7_laysWorld : MethodName := ⟨RX7, "laysWorld", "()V"⟩
abbrev cX7_held : ByteArray := prog_9_method_48_code
def yX7_held : MethodName := ⟨RX7, "held", "(JII)I"⟩
abbrev cX7_least : ByteArray := prog_9_method_49_code
def yX7_least : MethodName := ⟨RX7, "least", "(II)I"⟩
abbrev cX7_names : ByteArray := prog_9_method_50_code
def yX7_names : MethodName := ⟨RX7, "names", "(I)V"⟩
abbrev cX7_stillHolds : ByteArray := prog_9_method_51_code
def yX7_stillHolds : MethodName := ⟨RX7, "stillHolds", "(I)I"⟩
abbrev cX7_spoonOf : ByteArray := prog_9_method_52_code
def yX7_spoonOf : MethodName := ⟨RX7, "spoonOf", "(II)I"⟩
abbrev cX7_eats : ByteArray := prog_9_method_53_code
def yX7_eats : MethodName := ⟨RX7, "eats", "(II)I"⟩
abbrev cX7_tilt : ByteArray := prog_9_method_54_code
def yX7_tilt : MethodName := ⟨RX7, "tilt", "()I"⟩
abbrev cX7_isGuilty : ByteArray := prog_9_method_55_code
def yX7_isGuilty : MethodName := ⟨RX7, "isGuilty", "(I)Z"⟩
abbrev cX7_sit : ByteArray := prog_9_method_56_code
def yX7_sit : MethodName := ⟨RX7, "sit", "(II)Z"⟩
abbrev cX7_spoon : ByteArray := prog_9_method_57_code
def yX7_spoon : MethodName := ⟨RX7, "spoon", "(II)I"⟩
abbrev cX7_judge : ByteArray := prog_9_method_58_code
def yX7_judge : MethodName := ⟨RX7, "judge", "(I)I"⟩
abbrev cX7_draw : ByteArray := prog_9_method_59_code
def yX7_draw : MethodName := ⟨RX7, "draw", "(I)I"⟩
abbrev cX7_flies : ByteArray := prog_9_method_60_code
def yX7_flies : MethodName := ⟨RX7, "flies", "(I)I"⟩
abbrev cX7_played : ByteArray := prog_9_method_61_code
def yX7_played : MethodName := ⟨RX7, "played", "(I)I"⟩
abbrev cX7_of : ByteArray := prog_9_method_62_code
def yX7_of : MethodName := ⟨RX7, "of", "(II)I"⟩
abbrev cX7_written : ByteArray := prog_9_method_63_code
def yX7_written : MethodName := ⟨RX7, "written", "(II)I"⟩
abbrev cX7_dent : ByteArray := prog_9_method_64_code
def yX7_dent : MethodName := ⟨RX7, "dent", "(II)I"⟩
abbrev cX7_rows : ByteArray := prog_9_method_65_code
def yX7_rows : MethodName := ⟨RX7, "rows", "(I)I"⟩
abbrev cX7_laysOrder : ByteArray := prog_9_method_66_code
def yX7_laysOrder : MethodName := ⟨RX7, "laysOrder", "(II)V"⟩
abbrev cX7_size : ByteArray := prog_9_method_67_code
def yX7_size : MethodName := ⟨RX7, "size", "(I)I"⟩
abbrev cX7_called : ByteArray := prog_9_method_68_code
def yX7_called : MethodName := ⟨RX7, "called", "(III)I"⟩
abbrev cX7_acquits : ByteArray := prog_9_method_69_code
def yX7_acquits : MethodName := ⟨RX7, "acquits", "(II)Z"⟩
abbrev cX7_acquitted : ByteArray := prog_9_method_70_code
def yX7_acquitted : MethodName := ⟨RX7, "acquitted", "(II)I"⟩
abbrev cX7_sets : ByteArray := prog_9_method_71_code
def yX7_sets : MethodName := ⟨RX7, "sets", "(IIII)I"⟩
abbrev cX7_tested : ByteArray := prog_9_method_72_code
def yX7_tested : MethodName := ⟨RX7, "tested", "(II)I"⟩
abbrev cX7_hangs : ByteArray := prog_9_method_73_code
def yX7_hangs : MethodName := ⟨RX7, "hangs", "(II)I"⟩
abbrev cX7_fits : ByteArray := prog_9_method_74_code
def yX7_fits : MethodName := ⟨RX7, "fits", "()I"⟩
abbrev cX7_mostAlike : ByteArray := prog_9_method_75_code
def yX7_mostAlike : MethodName := ⟨RX7, "mostAlike", "(II)I"⟩
abbrev cX7_next : ByteArray := prog_9_method_76_code
def yX7_next : MethodName := ⟨RX7, "next", "()I"⟩
abbrev cX7_hired : ByteArray := prog_9_method_77_code
def yX7_hired : MethodName := ⟨RX7, "hired", "(I)I"⟩
abbrev cX7_contrary : ByteArray := prog_9_method_78_code
def yX7_contrary : MethodName := ⟨RX7, "contrary", "()I"⟩
abbrev cX7_common : ByteArray := prog_9_method_79_code
def yX7_common : MethodName := ⟨RX7, "common", "(JJ)J"⟩
abbrev cX7_odds : ByteArray := prog_9_method_80_code
def yX7_odds : MethodName := ⟨RX7, "odds", "(IIZ)J"⟩
abbrev cX7_tell : ByteArray := prog_9_method_81_code
def yX7_tell : MethodName := ⟨RX7, "tell", "(II)I"⟩
abbrev cX7_toldMore : ByteArray := prog_9_method_82_code
def yX7_toldMore : MethodName := ⟨RX7, "toldMore", "(I)I"⟩
abbrev cX7_liars : ByteArray := prog_9_method_83_code
def yX7_liars : MethodName := ⟨RX7, "liars", "()I"⟩
abbrev cX7_inWhoseName : ByteArray := prog_9_method_84_code
def yX7_inWhoseName : MethodName := ⟨RX7, "inWhoseName", "(I)I"⟩
abbrev cX7_image : ByteArray := prog_9_method_85_code
def yX7_image : MethodName := ⟨RX7, "image", "()I"⟩
abbrev cX7_back : ByteArray := prog_9_method_86_code
def yX7_back : MethodName := ⟨RX7, "back", "()I"⟩
abbrev cX7_about : ByteArray := prog_9_method_87_code
def yX7_about : MethodName := ⟨RX7, "about", "(I)I"⟩
def RJ11 : String := "java/lang/Character"
def TJ11 : u_T := fun k => match k with
  | _ => ("", "", "", false)
def tyJ11 : Nat → FieldType := fun k => match k with
  | _ => .int
abbrev wsJ110 : List Cond := u_ws RJ11 TJ11 0
theorem nmJ11 : ∀ a, a < 0 → ∀ b, b < 0 → a ≠ b → (TJ11 a).2.1 ≠ (TJ11 b).2.1 := by decide +kernel
theorem tyJ11_ok : ∀ k, k < 0 → parseFieldDescriptor (TJ11 k).2.2.1 = some (tyJ11 k) := by decide +kernel
abbrev cJ11_isValidCodePoint_9a6ad : ByteArray := prog_10_method_11_code
def yJ11_isValidCodePoint_9a6ad : MethodName := ⟨RJ11, "isValidCodePoint", "(I)Z"⟩
abbrev cJ11_highSurrogate_5068e : ByteArray := prog_10_method_28_code
def yJ11_highSurrogate_5068e : MethodName := ⟨RJ11, "highSurrogate", "(I)C"⟩
abbrev cJ11_lowSurrogate_5068e : ByteArray := prog_10_method_29_code
def yJ11_lowSurrogate_5068e : MethodName := ⟨RJ11, "lowSurrogate", "(I)C"⟩
def RJ6 : String := "java/lang/Integer"
def TJ6 : u_T := fun k => match k with
  | _ => ("", "", "", false)
def tyJ6 : Nat → FieldType := fun k => match k with
  | _ => .int
abbrev wsJ60 : List Cond := u_ws RJ6 TJ6 0
theorem nmJ6 : ∀ a, a < 0 → ∀ b, b < 0 → a ≠ b → (TJ6 a).2.1 ≠ (TJ6 b).2.1 := by decide +kernel
theorem tyJ6_ok : ∀ k, k < 0 → parseFieldDescriptor (TJ6 k).2.2.1 = some (tyJ6 k) := by decide +kernel
abbrev cJ6_bitCount_0f7a4 : ByteArray := prog_11_method_49_code
def yJ6_bitCount_0f7a4 : MethodName := ⟨RJ6, "bitCount", "(I)I"⟩
def RJ9 : String := "java/lang/Math"
def TJ9 : u_T := fun k => match k with
  | _ => ("", "", "", false)
def tyJ9 : Nat → FieldType := fun k => match k with
  | _ => .int
abbrev wsJ90 : List Cond := u_ws RJ9 TJ9 0
theorem nmJ9 : ∀ a, a < 0 → ∀ b, b < 0 → a ≠ b → (TJ9 a).2.1 ≠ (TJ9 b).2.1 := by decide +kernel
theorem tyJ9_ok : ∀ k, k < 0 → parseFieldDescriptor (TJ9 k).2.2.1 = some (tyJ9 k) := by decide +kernel
abbrev cJ9_abs_0f7a4 : ByteArray := prog_12_method_59_code
def yJ9_abs_0f7a4 : MethodName := ⟨RJ9, "abs", "(I)I"⟩
abbrev cJ9_max_7cf53 : ByteArray := prog_12_method_65_code
def yJ9_max_7cf53 : MethodName := ⟨RJ9, "max", "(II)I"⟩
abbrev cJ9_min_7cf53 : ByteArray := prog_12_method_69_code
def yJ9_min_7cf53 : MethodName := ⟨RJ9, "min", "(II)I"⟩
def RJ0 : String := "java/lang/String"
def TJ0 : u_T := fun k => match k with
  | _ => ("", "", "", false)
def tyJ0 : Nat → FieldType := fun k => match k with
  | _ => .int
abbrev wsJ00 : List Cond := u_ws RJ0 TJ0 0
theorem nmJ0 : ∀ a, a < 0 → ∀ b, b < 0 → a ≠ b → (TJ0 a).2.1 ≠ (TJ0 b).2.1 := by decide +kernel
theorem tyJ0_ok : ∀ k, k < 0 → parseFieldDescriptor (TJ0 k).2.2.1 = some (tyJ0 k) := by decide +kernel
abbrev cJ0_length_8abf5 : ByteArray := prog_13_method_54_code
def yJ0_length_8abf5 : MethodName := ⟨RJ0, "length", "()I"⟩
abbrev cJ0_charAt_5068e : ByteArray := prog_13_method_56_code
def yJ0_charAt_5068e : MethodName := ⟨RJ0, "charAt", "(I)C"⟩
abbrev cJ0_indexOf_0f7a4 : ByteArray := prog_13_method_79_code
def yJ0_indexOf_0f7a4 : MethodName := ⟨RJ0, "indexOf", "(I)I"⟩
abbrev cJ0_indexOf_7cf53 : ByteArray := prog_13_method_80_code
def yJ0_indexOf_7cf53 : MethodName := ⟨RJ0, "indexOf", "(II)I"⟩
abbrev cJ0_coder_7d493 : ByteArray := prog_13_method_152_code
def yJ0_coder_7d493 : MethodName := ⟨RJ0, "coder", "()B"⟩
abbrev cJ0_isLatin1_aae02 : ByteArray := prog_13_method_154_code
def yJ0_isLatin1_aae02 : MethodName := ⟨RJ0, "isLatin1", "()Z"⟩
abbrev cJ0_checkIndex_df160 : ByteArray := prog_13_method_155_code
def yJ0_checkIndex_df160 : MethodName := ⟨RJ0, "checkIndex", "(II)V"⟩
abbrev cJ0_checkBoundsBeginEnd_23922 : ByteArray := prog_13_method_158_code
def yJ0_checkBoundsBeginEnd_23922 : MethodName := ⟨RJ0, "checkBoundsBeginEnd", "(III)V"⟩
def RJ1 : String := "java/lang/StringLatin1"
def TJ1 : u_T := fun k => match k with
  | _ => ("", "", "", false)
def tyJ1 : Nat → FieldType := fun k => match k with
  | _ => .int
abbrev wsJ10 : List Cond := u_ws RJ1 TJ1 0
theorem nmJ1 : ∀ a, a < 0 → ∀ b, b < 0 → a ≠ b → (TJ1 a).2.1 ≠ (TJ1 b).2.1 := by decide +kernel
theorem tyJ1_ok : ∀ k, k < 0 → parseFieldDescriptor (TJ1 k).2.2.1 = some (tyJ1 k) := by decide +kernel
abbrev cJ1_charAt_3b067 : ByteArray := prog_14_method_2_code
def yJ1_charAt_3b067 : MethodName := ⟨RJ1, "charAt", "([BI)C"⟩
abbrev cJ1_canEncode_9a6ad : ByteArray := prog_14_method_4_code
def yJ1_canEncode_9a6ad : MethodName := ⟨RJ1, "canEncode", "(I)Z"⟩
abbrev cJ1_indexOf_4cfef : ByteArray := prog_14_method_22_code
def yJ1_indexOf_4cfef : MethodName := ⟨RJ1, "indexOf", "([BIII)I"⟩
abbrev cJ1_indexOfChar_4cfef : ByteArray := prog_14_method_23_code
def yJ1_indexOfChar_4cfef : MethodName := ⟨RJ1, "indexOfChar", "([BIII)I"⟩
def RJ2 : String := "java/lang/StringUTF16"
def TJ2 : u_T := fun k => match k with
  | _ => ("", "", "", false)
def tyJ2 : Nat → FieldType := fun k => match k with
  | _ => .int
abbrev wsJ20 : List Cond := u_ws RJ2 TJ2 0
theorem nmJ2 : ∀ a, a < 0 → ∀ b, b < 0 → a ≠ b → (TJ2 a).2.1 ≠ (TJ2 b).2.1 := by decide +kernel
theorem tyJ2_ok : ∀ k, k < 0 → parseFieldDescriptor (TJ2 k).2.2.1 = some (tyJ2 k) := by decide +kernel
abbrev cJ2_getChar_3b067 : ByteArray := prog_15_method_5_code
def yJ2_getChar_3b067 : MethodName := ⟨RJ2, "getChar", "([BI)C"⟩
abbrev cJ2_length_9d52b : ByteArray := prog_15_method_6_code
def yJ2_length_9d52b : MethodName := ⟨RJ2, "length", "([B)I"⟩
abbrev cJ2_indexOf_4cfef : ByteArray := prog_15_method_40_code
def yJ2_indexOf_4cfef : MethodName := ⟨RJ2, "indexOf", "([BIII)I"⟩
abbrev cJ2_indexOfChar_4cfef : ByteArray := prog_15_method_47_code
def yJ2_indexOfChar_4cfef : MethodName := ⟨RJ2, "indexOfChar", "([BIII)I"⟩
abbrev cJ2_indexOfCharUnsafe_4cfef : ByteArray := prog_15_method_48_code
def yJ2_indexOfCharUnsafe_4cfef : MethodName := ⟨RJ2, "indexOfCharUnsafe", "([BIII)I"⟩
abbrev cJ2_indexOfSupplementary_4cfef : ByteArray := prog_15_method_49_code
def yJ2_indexOfSupplementary_4cfef : MethodName := ⟨RJ2, "indexOfSupplementary", "([BIII)I"⟩
abbrev cJ2_charAt_3b067 : ByteArray := prog_15_method_83_code
def yJ2_charAt_3b067 : MethodName := ⟨RJ2, "charAt", "([BI)C"⟩
abbrev cJ2_checkIndex_2214a : ByteArray := prog_15_method_91_code
def yJ2_checkIndex_2214a : MethodName := ⟨RJ2, "checkIndex", "(I[B)V"⟩
abbrev cJ2_checkBoundsBeginEnd_d044e : ByteArray := prog_15_method_93_code
def yJ2_checkBoundsBeginEnd_d044e : MethodName := ⟨RJ2, "checkBoundsBeginEnd", "(II[B)V"⟩
def RJ10 : String := "java/lang/System"
def TJ10 : u_T := fun k => match k with
  | _ => ("", "", "", false)
def tyJ10 : Nat → FieldType := fun k => match k with
  | _ => .int
abbrev wsJ100 : List Cond := u_ws RJ10 TJ10 0
theorem nmJ10 : ∀ a, a < 0 → ∀ b, b < 0 → a ≠ b → (TJ10 a).2.1 ≠ (TJ10 b).2.1 := by decide +kernel
theorem tyJ10_ok : ∀ k, k < 0 → parseFieldDescriptor (TJ10 k).2.2.1 = some (tyJ10 k) := by decide +kernel
def RJ3 : String := "jdk/internal/util/Preconditions"
def TJ3 : u_T := fun k => match k with
  | _ => ("", "", "", false)
def tyJ3 : Nat → FieldType := fun k => match k with
  | _ => .int
abbrev wsJ30 : List Cond := u_ws RJ3 TJ3 0
theorem nmJ3 : ∀ a, a < 0 → ∀ b, b < 0 → a ≠ b → (TJ3 a).2.1 ≠ (TJ3 b).2.1 := by decide +kernel
theorem tyJ3_ok : ∀ k, k < 0 → parseFieldDescriptor (TJ3 k).2.2.1 = some (tyJ3 k) := by decide +kernel
abbrev cJ3_checkIndex_8e157 : ByteArray := prog_17_method_11_code
def yJ3_checkIndex_8e157 : MethodName := ⟨RJ3, "checkIndex", "(IILjava/util/function/BiFunction;)I"⟩
abbrev cJ3_checkFromToIndex_8c36e : ByteArray := prog_17_method_12_code
def yJ3_checkFromToIndex_8c36e : MethodName := ⟨RJ3, "checkFromToIndex", "(IIILjava/util/function/BiFunction;)I"⟩
theorem in_pos {big ws : List Cond} (ps : List Nat) (h : ps.map (fun i => big[i]?) = ws.map some) : ∀ w ∈ ws, w ∈ big := by
  intro w hw
  obtain ⟨k, hk⟩ := List.getElem?_of_mem hw
  have h1 : (ps.map (fun i => big[i]?))[k]? = some (some w) := by rw [h, List.getElem?_map, hk]; rfl
  rw [List.getElem?_map] at h1
  cases hp : ps[k]? with
  | none => rw [hp] at h1; cases h1
  | some i => rw [hp] at h1; exact List.mem_of_getElem? (Option.some.inj h1)
set_option maxRecDepth 20000 in
theorem inX0 : ∀ w ∈ wsX00, w ∈ lw_tbl := in_pos [283, 285, 287, 289] (by decide +kernel)
set_option maxRecDepth 20000 in
theorem inX1 : ∀ w ∈ wsX10, w ∈ lw_tbl := in_pos [195, 197, 199, 201, 203, 205, 207, 209, 211, 213, 215, 217, 219, 221, 223] (by decide +kernel)
set_option maxRecDepth 20000 in
theorem inX2 : ∀ w ∈ wsX20, w ∈ lw_tbl := in_pos [259, 261, 263, 265, 267, 269, 271, 273] (by decide +kernel)
set_option maxRecDepth 20000 in
theorem inX3 : ∀ w ∈ wsX30, w ∈ lw_tbl := in_pos [363, 365, 367, 369, 371, 373, 375, 377, 379, 381, 383, 385, 387, 389, 391] (by decide +kernel)
set_option maxRecDepth 20000 in
theorem inX4 : ∀ w ∈ wsX40, w ∈ lw_tbl := in_pos [145, 147, 149, 151, 153, 155] (by decide +kernel)
set_option maxRecDepth 20000 in
theorem inX5 : ∀ w ∈ wsX50, w ∈ lw_tbl := in_pos [312, 314, 316, 318, 320, 322, 324, 326, 328, 330, 332, 334] (by decide +kernel)
set_option maxRecDepth 20000 in
theorem inX6 : ∀ w ∈ wsX60, w ∈ lw_tbl := in_pos [404, 406, 408, 410, 412, 414, 416, 418, 420, 422] (by decide +kernel)
set_option maxRecDepth 20000 in
theorem inX7 : ∀ w ∈ wsX70, w ∈ lw_tbl := in_pos [1022, 1024, 1026, 1028, 1030, 1032, 1034, 1036, 1038, 1040, 1042, 1044, 1046, 1048, 1050, 1052, 1054, 1056, 1058, 1060, 1062, 1064, 1066, 1068, 1070, 1072, 1074, 1076, 1078, 1080, 1082, 1084, 1086, 1088, 1090, 1092, 1094, 1096, 1098, 1100, 1102, 1104, 1106, 1108, 1110, 1112, 1114, 1116] (by decide +kernel)
end
section
/-! THE GO LAYER. The world: all cells that were made since the law began, by number (cell k lies at G.1.size + k). S: their kinds; I, R, L: their ints, references (cell numbers), longs. -/
abbrev gm : Type := MethodName × ByteArray × Nat × Option FieldType
abbrev gS : Type := List (Nat × Nat)
abbrev gI : Type := Nat → Nat → Int32
abbrev gR : Type := Nat → Nat → Option Nat
abbrev gL : Type := Nat → Nat → Int64
/-- the ground: heap at the start, class numbers and slots, array classes, addresses of things outside, the script -/
abbrev gG : Type := Heap × va_G × (Nat → ClassId) × (Nat → Nat) × Nat × (Nat → Int32)
abbrev gQ : Type := Option Value → gS → gI → gR → gL → Prop
/-- the words that a method may count on -/
def g_t : List Cond := lw_tbl.filter goodWord
theorem g_in {w : Cond} (i : Nat) (h : lw_tbl[i]? = some w) (hg : goodWord w = true) : w ∈ g_t := List.mem_filter.mpr ⟨List.mem_of_getElem? h, hg⟩
/-- a value: cell numbers become addresses; 'float n' stands for the thing outside with number n -/
def cv (G : gG) : Value → Value
  | .ref k => .ref (G.1.size + k)
  | .float n => .ref (G.2.2.2.1 n.toNat)
  | .int x => .int x
  | .long x => .long x
  | .double x => .double x
  | .null => .null
  | .retAddr x => .retAddr x
theorem cv_cat (G : gG) (v : Value) : (cv G v).category = v.category := by cases v <;> rfl
theorem cv_cats (G : gG) (st : List Value) : ((st.map (cv G)).map fun v => v.category).sum = (st.map fun v => v.category).sum := by
  induction st with
  | nil => rfl
  | cons v t ih => simp only [List.map_cons, List.sum_cons, ih, cv_cat]
abbrev g_cl : List vw_C := [(RX0, TX0, 4), (RX1, TX1, 15), (RX2, TX2, 8), (RX3, TX3, 15), (RX4, TX4, 6), (RX5, TX5, 12), (RX6, TX6, 10), (RX7, TX7, 48)]
def g_ty : Nat → Nat → FieldType
  | 0 => tyX0 | 1 => tyX1 | 2 => tyX2 | 3 => tyX3 | 4 => tyX4 | 5 => tyX5 | 6 => tyX6 | _ => tyX7
/-- whether a field is a reference -/
def g_rt : FieldType → Bool
  | .object _ => true
  | .array _ => true
  | _ => false
def g_nf : Nat → Nat
  | 0 => 4 | 1 => 15 | 2 => 8 | 3 => 15 | 4 => 6 | 5 => 12 | 6 => 10 | 7 => 48 | _ => 0
theorem g_cls {ci : Nat} {r : vw_C} (h : g_cl[ci]? = some r) : (∀ w ∈ u_ws r.1 r.2.1 r.2.2, w ∈ lw_tbl) ∧ (∀ a, a < r.2.2 → ∀ b, b < r.2.2 → a ≠ b → (r.2.1 a).2.1 ≠ (r.2.1 b).2.1) ∧ (∀ k, k < r.2.2 → parseFieldDescriptor (r.2.1 k).2.2.1 = some (g_ty ci k)) ∧ r.2.2 = g_nf ci := by
  match ci, h with
  | 0, h => cases h; exact ⟨inX0, nmX0, tyX0_ok, rfl⟩
  | 1, h => cases h; exact ⟨inX1, nmX1, tyX1_ok, rfl⟩
  | 2, h => cases h; exact ⟨inX2, nmX2, tyX2_ok, rfl⟩
  | 3, h => cases h; exact ⟨inX3, nmX3, tyX3_ok, rfl⟩
  | 4, h => cases h; exact ⟨inX4, nmX4, tyX4_ok, rfl⟩
  | 5, h => cases h; exact ⟨inX5, nmX5, tyX5_ok, rfl⟩
  | 6, h => cases h; exact ⟨inX6, nmX6, tyX6_ok, rfl⟩
  | 7, h => cases h; exact ⟨inX7, nmX7, tyX7_ok, rfl⟩
  | k + 8, h => simp [g_cl] at h
theorem g_uws {C : String} {T : u_T} {N : Nat} (h : ∀ w ∈ u_ws C T N, w ∈ lw_tbl) : ∀ w ∈ u_ws C T N, w ∈ g_t := fun w hw => List.mem_filter.mpr ⟨h w hw, by
  obtain ⟨k, -, rfl⟩ := List.mem_map.mp hw
  unfold u_lay
  split <;> rfl⟩
/-- an object's field -/
def g_f (G : gG) (I : gI) (R : gR) (k ci j : Nat) : Value := if g_rt (g_ty ci j) = true then va_rf ((R k j).map (G.1.size + ·)) else .int (I k j)
/-- a cell of a kind: (0, class), (1, n) int[n], (2, n) byte[n], (3, n) long[n], (4, n) Scene[n], (5, n) Law[n] -/
def g_e (G : gG) (I : gI) (R : gR) (L : gL) (k : Nat) (x : Nat × Nat) : va_E := match x.1 with
  | 0 => .inr (x.2, (List.range (g_nf x.2)).map (g_f G I R k x.2))
  | 1 => .inl (G.2.2.1 0, x.2, .inl (I k))
  | 2 => .inl (G.2.2.1 1, x.2, .inl (I k))
  | 3 => .inl (G.2.2.1 2, x.2, .inr (.inl (L k)))
  | c + 4 => .inl (G.2.2.1 (c + 3), x.2, .inr (.inr (.inr (.inr (fun j => (R k j).map (G.1.size + ·))))))
def g_W (G : gG) (S : gS) (I : gI) (R : gR) (L : gL) : va_W := S.mapIdx (fun k x => (G.1.size + k, g_e G I R L k x))
def g_A (G : gG) : Nat → Prop := fun q => G.1.size ≤ q
theorem g_W_at {G : gG} {S : gS} {I : gI} {R : gR} {L : gL} {k : Nat} {x : Nat × Nat} (h : S[k]? = some x) : (g_W G S I R L)[k]? = some (G.1.size + k, g_e G I R L k x) := by
  simp [g_W, List.getElem?_mapIdx, h]
theorem g_W_of {G : gG} {S : gS} {I : gI} {R : gR} {L : gL} {k : Nat} {q : Nat × va_E} (h : (g_W G S I R L)[k]? = some q) : ∃ x, S[k]? = some x ∧ q = (G.1.size + k, g_e G I R L k x) := by
  simp only [g_W, List.getElem?_mapIdx] at h
  cases hx : S[k]? with
  | none => rw [hx] at h; cases h
  | some x => rw [hx] at h; exact ⟨x, rfl, (Option.some.inj h).symm⟩
theorem g_D {G : gG} {S : gS} {I : gI} {R : gR} {L : gL} : va_D (g_A G) (g_W G S I R L) := by
  refine ⟨fun i j p q hi hj h => ?_, fun k q h => ?_⟩
  · obtain ⟨x, -, rfl⟩ := g_W_of hi
    obtain ⟨y, -, rfl⟩ := g_W_of hj
    have h : G.1.size + i = G.1.size + j := h
    omega
  · obtain ⟨x, -, rfl⟩ := g_W_of h
    exact Nat.le_add_right _ _
/-- one cell set anew -/
theorem g_W_set {G : gG} {S : gS} {I I' : gI} {R R' : gR} {L L' : gL} {k : Nat} {x : Nat × Nat} (h : S[k]? = some x) (hI : ∀ c, c ≠ k → I' c = I c) (hR : ∀ c, c ≠ k → R' c = R c) (hL : ∀ c, c ≠ k → L' c = L c) : (g_W G S I R L).set k (G.1.size + k, g_e G I' R' L' k x) = g_W G S I' R' L' := by
  apply List.ext_getElem?
  intro j
  have hl : k < (g_W G S I R L).length := (List.getElem?_eq_some_iff.mp (g_W_at (G := G) (I := I) (R := R) (L := L) h)).1
  by_cases hj : j = k
  · subst hj
    rw [List.getElem?_set_self hl, g_W_at h]
  · rw [List.getElem?_set_ne (Ne.symm hj)]
    simp only [g_W, List.getElem?_mapIdx]
    cases S[j]? with
    | none => rfl
    | some y =>
      have e : g_e G I R L j y = g_e G I' R' L' j y := by
        obtain ⟨y1, y2⟩ := y
        unfold g_e
        have ef : g_f G I R j = g_f G I' R' j := by
          funext ci z
          simp only [g_f, hI j hj, hR j hj]
        match y1 with
        | 0 => simp only [ef]
        | 1 => simp only [hI j hj]
        | 2 => simp only [hI j hj]
        | 3 => simp only [hL j hj]
        | c + 4 => simp only [hR j hj]
      simp [e]
def g_tys (G : gG) : List (ClassId × FieldType) := [(G.2.2.1 0, .int), (G.2.2.1 1, .byte), (G.2.2.1 2, .long), (G.2.2.1 3, .object "SpoonScales$Scene"), (G.2.2.1 4, .object "SpoonScales$Law")]
def g_no : List Int32 := [255, 15, 3968]
def g_ch : List Int32 := [1, 0, 0, 0, 0, 0, 0, 1, 1, 0, 0, 0, 0, 0, 1, 2, 1, 0, 0, 0, 0, 1, 3, 3, 1, 0, 0, 0, 1, 4, 6, 4, 1, 0, 0, 1, 5, 10, 10, 5, 1, 0, 1, 6, 15, 20, 15, 6, 1]
def g_sn : List Nat := [129, 11]
def g_sb : List (List Int32) := [[101, 97, 116, 115, 32, 104, 111, 108, 100, 115, 32, 103, 117, 105, 108, 116, 121, 32, 115, 105, 116, 32, 115, 112, 111, 111, 110, 32, 106, 117, 100, 103, 101, 32, 102, 108, 105, 101, 115, 32, 97, 116, 32, 111, 102, 32, 111, 114, 32, 97, 110, 100, 32, 110, 111, 116, 32, 101, 97, 116, 101, 114, 32, 104, 117, 110, 103, 101, 114, 32, 115, 116, 111, 109, 97, 99, 104, 115, 32, 101, 97, 116, 101, 110, 32, 107, 105, 110, 100, 32, 108, 101, 102, 116, 32, 115, 112, 111, 111, 110, 115, 32, 115, 105, 100, 101, 32, 116, 105, 108, 116, 32, 104, 111, 110, 101, 121, 32, 115, 97, 108, 116, 32, 100, 101, 110, 116, 115, 32], [60, 62, 61, 35, 43, 45, 42, 47, 40, 41, 59]]
def g_s1 : String := "eats holds guilty sit spoon judge flies at of or and not eater hunger stomachs eaten kind left spoons side tilt honey salt dents "
def g_s2 : String := "<>=#+-*/();"
/-- the things outside: 0 the script, 1 NAMES_OF, 2 CHOOSE, 3 and 4 the two texts, 5 and 6 their bytes -/
def g_X (G : gG) (U : State) : Prop :=
  va_X (G.2.2.2.1 0) G.2.2.2.2.1 G.2.2.2.2.2 U G.1 ∧ G.2.2.2.1 0 < G.1.size ∧
  va_Z "SpoonScales" "NAMES_OF" "[I" (.ref (G.2.2.2.1 1)) (g_A G) U G.1 ∧ va_T .int (G.2.2.2.1 1) 3 (fun j => .int (g_no.getD j 0)) (g_A G) U G.1 ∧
  va_Z "SpoonScales" "CHOOSE" "[I" (.ref (G.2.2.2.1 2)) (g_A G) U G.1 ∧ va_T .int (G.2.2.2.1 2) 49 (fun j => .int (g_ch.getD j 0)) (g_A G) U G.1 ∧
  vk_R "SpoonScales$Reader" 75 g_s1 (G.2.2.2.1 3) U ∧ vk_R "SpoonScales$Reader" 90 g_s2 (G.2.2.2.1 4) U ∧
  vk_S 2 g_sn g_sb (fun i => G.2.2.2.1 (i + 3)) (fun i => G.2.2.2.1 (i + 5)) (g_A G) U G.1 ∧
  va_Z "java/lang/String" "COMPACT_STRINGS" "Z" (.int 1) (g_A G) U G.1 ∧
  va_Nw (.fieldLinkNest "SpoonScales$Reader" 166 "SpoonScales" "NAMES_OF" "[I" "SpoonScales") U ∧
  va_AO "SpoonScales$Scene" U ∧ va_AO "SpoonScales$Law" U
def g_K (G : gG) (U : State) : Prop := va_K G.2.1 g_cl (g_tys G) U ∧ g_X G U
theorem g_K.warm {G : gG} {s U : State} (hW : s.WarmedH U.vm) (h : g_K G s) : g_K G U := by
  obtain ⟨hK, h1, h2, h3, h4, h5, h6, h7, h8, h9, h10, h11, h12, h13⟩ := h
  have hv : s.vm.Alike U.vm := hW.alike
  exact ⟨va_K.moved hv hK, va_X.moved hv h1, h2, va_Z.moved hv h3, va_T.moved hv h4, va_Z.moved hv h5, va_T.moved hv h6, vk_R.warm hW h7, vk_R.warm hW h8, vk_S.moved hv h9, va_Z.moved hv h10, va_Nw.warmF hW h11, va_AO.moved hv h12, va_AO.moved hv h13⟩
theorem g_K.same {G : gG} {s U : State} (hv : U.vm = s.vm) (h : g_K G s) : g_K G U := by
  obtain ⟨hK, h1, h2, h3, h4, h5, h6, h7, h8, h9, h10, h11, h12, h13⟩ := h
  have hA : s.vm.Alike U.vm := by rw [hv]; exact Vm.Alike.refl _
  exact ⟨va_K.moved hA hK, va_X.moved hA h1, h2, va_Z.moved hA h3, va_T.moved hA h4, va_Z.moved hA h5, va_T.moved hA h6, vk_R.same hv h7, vk_R.same hv h8, vk_S.moved hA h9, va_Z.moved hA h10, va_Nw.same rfl hv.symm h11, va_AO.moved hA h12, va_AO.moved hA h13⟩
/-- locals -/
def g_L (G : gG) (lsA : Array Slot) (n : Nat) (ls : List (Option Value)) : Prop := lsA.size = n ∧ lv_wf lsA ∧ ∀ (k : Nat) (v : Value), ls[k]? = some (some v) → lsA[k]? = some (.val (cv G v))
def g_C (μ : gm) (G : gG) (p : Program) (s : State) (m : MethodId) (args : Array Value) (meth : Method) (c : Code) : Prop :=
  p.tables.exec = Jvm.exec ∧ c.code = μ.2.1 ∧ c.maxLocals = μ.2.2.1 ∧ meth.sig.returnType = μ.2.2.2 ∧ meth.locks = false ∧ s.vm.findClass μ.1.cls = some m.cls ∧ (∀ w ∈ g_t, w.before args s = true) ∧ meth.name = μ.1.name ∧ g_K G s ∧ va_S (g_A G) G.1 s.heap []
def g_q (G : gG) (Q : gQ) (mc : Nat) : Array Value → State → Outcome → State → Prop := fun _ s o t => ∃ (r : Option Value) (S : gS) (I : gI) (R : gR) (L : gL), o = .returned (r.map (cv G)) ∧ Q r S I R L ∧ va_P G.2.1 g_cl (g_W G S I R L) t.heap ∧ va_S (g_A G) G.1 t.heap [] ∧ s.heap.size + mc = G.1.size + S.length
def g_Z (μ : gm) (d rc rs : Nat) (ls : List (Option Value)) (S : gS) (I : gI) (R : gR) (L : gL) (G : gG) (p : Program) (RM : Room) (s : State) (m : MethodId) (args : Array Value) (meth : Method) (c : Code) (H : Heap) (locs : List Loc) (cells slots mc ms : Nat) (lsA : Array Slot) : Prop :=
  g_C μ G p s m args meth c ∧ (d ≤ RM.frames ∧ 64 * d ≤ RM.locals ∧ mc ≤ RM.cells ∧ ms ≤ RM.slots) ∧ (cells + rc = mc ∧ slots + rs ≤ ms ∧ s.heap.size + cells = G.1.size + S.length) ∧ va_P G.2.1 g_cl (g_W G S I R L) H ∧ va_S (g_A G) G.1 H locs ∧ g_L G lsA μ.2.2.1 ls
/-- from here, in this world, the method comes to its end with Q; d frames are left below it, rc cells and rs slots may be made yet -/
def Go (G : gG) (μ : gm) (d rc rs pc : Nat) (ls : List (Option Value)) (st : List Value) (S : gS) (I : gI) (R : gR) (L : gL) (Q : gQ) : Prop :=
  ∀ (l : Launch) (p : Program) (e : Env) (RM : Room) (s : State) (m : MethodId) (args : Array Value) (below : List Frame) (meth : Method) (c : Code) (H : Heap) (locs : List Loc) (cells slots mc ms : Nat) (lsA : Array Slot),
    g_Z μ d rc rs ls S I R L G p RM s m args meth c H locs cells slots mc ms lsA →
    W p l e RM s m args below meth c H locs cells slots (MQ below (g_q G Q mc) args s mc ms (g_A G)) (F0 m pc lsA (st.map (cv G)))
def g_w (μ : gm) : List Cond := Cond.code μ.1 μ.2.1 μ.2.2.1 μ.2.2.2 :: g_t
def g_P (G : gG) (as : List Value) (S : gS) (I : gI) (R : gR) (L : gL) : Array Value → State → Prop := fun v U => v = (as.map (cv G)).toArray ∧ U.heap.size = G.1.size + S.length ∧ va_P G.2.1 g_cl (g_W G S I R L) U.heap ∧ va_S (g_A G) G.1 U.heap [] ∧ g_K G U
/-- a method's contract: called in this world it comes back with Q -/
def Mt (G : gG) (μ : gm) (d rc rs : Nat) (as : List Value) (S : gS) (I : gI) (R : gR) (L : gL) (Q : gQ) : Prop :=
  ∀ (l : Launch), Met l μ.1 (g_w μ) { frames := d, cells := rc, slots := rs, locals := 64 * d } (g_P G as S I R L) (g_q G Q rc) rc rs (g_A G)
/-- the locals at the entry -/
def g_i : List Value → List (Option Value)
  | [] => []
  | v :: r => match v with
    | .long x => some (.long x) :: none :: g_i r
    | .double x => some (.double x) :: none :: g_i r
    | v => some v :: g_i r
def g_n (as : List Value) (n : Nat) : List (Option Value) := g_i as ++ List.replicate (n - (g_i as).length) none
theorem g_i_len (G : gG) (as : List Value) : (lg_sl (as.map (cv G))).length = (g_i as).length := by
  induction as with
  | nil => rfl
  | cons v t ih =>
    have e : lg_sl ((v :: t).map (cv G)) = (if (cv G v).category = 2 then [.val (cv G v), .second] else [.val (cv G v)]) ++ lg_sl (t.map (cv G)) := by simp [lg_sl]
    rw [e, List.length_append, ih]
    cases v <;> simp [g_i, cv, Value.category] <;> omega
theorem g_i_at (G : gG) (as : List Value) : ∀ (k : Nat) (v : Value), (g_i as)[k]? = some (some v) → (lg_sl (as.map (cv G)))[k]? = some (.val (cv G v)) := by
  induction as with
  | nil => intro k v h; simp [g_i] at h
  | cons a t ih =>
    intro k v h
    have e : lg_sl ((a :: t).map (cv G)) = (if (cv G a).category = 2 then [.val (cv G a), .second] else [.val (cv G a)]) ++ lg_sl (t.map (cv G)) := by simp [lg_sl]
    rw [e]
    cases a <;> simp only [g_i, cv, Value.category] at h ⊢ <;>
      (rcases k with _ | k
       · first | (simp at h; subst h; simp [cv]) | (simp at h)
       · first
         | (rcases k with _ | k
            · simp at h
            · simp at h; simpa [cv] using ih k v h)
         | (simp at h; simpa [cv] using ih k v h))
theorem go_start {G : gG} {μ : gm} {d rc rs : Nat} {as : List Value} {S : gS} {I : gI} {R : gR} {L : gL} {Q : gQ} {ls : List (Option Value)} (hp : plainName μ.1.cls = true) (hl : (g_i as).length ≤ μ.2.2.1) (he : g_n as μ.2.2.1 = ls) (k : Go G μ d rc rs 0 ls [] S I R L Q) : Mt G μ d rc rs as S I R L Q := by
  subst he
  intro l
  refine Met.ofW (cc := μ.2.1) (maxL := μ.2.2.1) (ret := μ.2.2.2) (ws' := g_t) hp rfl ?_
  intro p e s m args below meth c s₁ B hml hv
  obtain ⟨rfl, hsz, hP, hS, hK⟩ := hv
  have hts := atoms_spec (ws := g_w μ) B.pre
  have hn := lv_entry (as.map (cv G)) (n := μ.2.2.1) (by rw [g_i_len]; exact hl)
  rw [lg_entry_eq]
  refine k l p e _ s m _ below meth c s.heap [] 0 0 rc rs _ ⟨⟨B.exec, B.bytes, hml, B.returns, B.notSynchronized, findClass_of_methodNamed B.named, fun w hw => hts w (List.mem_cons_of_mem _ hw), (name_of_methodNamed B.named B.method).1, hK, hS⟩, ⟨Nat.le_refl _, Nat.le_refl _, Nat.le_refl _, Nat.le_refl _⟩, ⟨Nat.zero_add _, by omega, hsz⟩, hP, hS, hn.1, hn.2.1, fun i v hi => ?_⟩
  have hi2 : i < (g_i as).length := by
    rcases Nat.lt_or_ge i (g_i as).length with h | h
    · exact h
    · rw [g_n, List.getElem?_append_right h, List.getElem?_replicate] at hi
      split at hi <;> simp at hi
  rw [g_n, List.getElem?_append_left hi2] at hi
  have h3 := g_i_at G as i v hi
  rw [List.getElem?_toArray, List.getElem?_append_left (by rw [g_i_len]; exact hi2)]
  exact h3
end
section
section GR
variable {G : gG} {μ : gm} {d rc rs pc : Nat} {ls : List (Option Value)} {st : List Value} {S : gS} {I : gI} {R : gR} {L : gL} {Q : gQ}
theorem go_iconst {n : Int} {v : Int32} (hd : decode μ.2.1 pc = .ok (.iconst n, 1)) (hv : Int32.ofInt n = v) (kk : Go G μ d rc rs (pc + 1) ls (.int v :: st) S I R L Q) : Go G μ d rc rs pc ls st S I R L Q := by
  intro l p e RM s m args below meth c H locs cells slots mc ms lsA Z
  exact lv_iconst Z.1.1 Z.1.2.1 hd hv (kk l p e RM s m args below meth c H locs cells slots mc ms lsA Z)
theorem go_bipush {n : Int} {v : Int32} (hd : decode μ.2.1 pc = .ok (.bipush n, 2)) (hv : (Int8.ofInt n).toInt32 = v) (kk : Go G μ d rc rs (pc + 2) ls (.int v :: st) S I R L Q) : Go G μ d rc rs pc ls st S I R L Q := by
  intro l p e RM s m args below meth c H locs cells slots mc ms lsA Z
  exact lv_bipush Z.1.1 Z.1.2.1 hd hv (kk l p e RM s m args below meth c H locs cells slots mc ms lsA Z)
theorem go_sipush {n : Int} {v : Int32} (hd : decode μ.2.1 pc = .ok (.sipush n, 3)) (hv : (Int16.ofInt n).toInt32 = v) (kk : Go G μ d rc rs (pc + 3) ls (.int v :: st) S I R L Q) : Go G μ d rc rs pc ls st S I R L Q := by
  intro l p e RM s m args below meth c H locs cells slots mc ms lsA Z
  exact lv_sipush Z.1.1 Z.1.2.1 hd hv (kk l p e RM s m args below meth c H locs cells slots mc ms lsA Z)
theorem go_lconst {n : Fin 2} {v : Int64} (hd : decode μ.2.1 pc = .ok (.lconst n, 1)) (hv : Int64.ofNat (n : Nat) = v) (kk : Go G μ d rc rs (pc + 1) ls (.long v :: st) S I R L Q) : Go G μ d rc rs pc ls st S I R L Q := by
  intro l p e RM s m args below meth c H locs cells slots mc ms lsA Z
  exact lv_lconst Z.1.1 Z.1.2.1 hd hv (kk l p e RM s m args below meth c H locs cells slots mc ms lsA Z)
theorem go_null  (hd : decode μ.2.1 pc = .ok (.aconst_null, 1))  (kk : Go G μ d rc rs (pc + 1) ls (.null :: st) S I R L Q) : Go G μ d rc rs pc ls st S I R L Q := by
  intro l p e RM s m args below meth c H locs cells slots mc ms lsA Z
  exact lv_null Z.1.1 Z.1.2.1 hd  (kk l p e RM s m args below meth c H locs cells slots mc ms lsA Z)
theorem go_iadd {x y : Int32} (hd : decode μ.2.1 pc = .ok (.iadd, 1))  (kk : Go G μ d rc rs (pc + 1) ls (.int (x + y) :: st) S I R L Q) : Go G μ d rc rs pc ls (.int y :: .int x :: st) S I R L Q := by
  intro l p e RM s m args below meth c H locs cells slots mc ms lsA Z
  exact lv_iadd Z.1.1 Z.1.2.1 hd  (kk l p e RM s m args below meth c H locs cells slots mc ms lsA Z)
theorem go_isub {x y : Int32} (hd : decode μ.2.1 pc = .ok (.isub, 1))  (kk : Go G μ d rc rs (pc + 1) ls (.int (x - y) :: st) S I R L Q) : Go G μ d rc rs pc ls (.int y :: .int x :: st) S I R L Q := by
  intro l p e RM s m args below meth c H locs cells slots mc ms lsA Z
  exact lv_isub Z.1.1 Z.1.2.1 hd  (kk l p e RM s m args below meth c H locs cells slots mc ms lsA Z)
theorem go_imul {x y : Int32} (hd : decode μ.2.1 pc = .ok (.imul, 1))  (kk : Go G μ d rc rs (pc + 1) ls (.int (x * y) :: st) S I R L Q) : Go G μ d rc rs pc ls (.int y :: .int x :: st) S I R L Q := by
  intro l p e RM s m args below meth c H locs cells slots mc ms lsA Z
  exact lv_imul Z.1.1 Z.1.2.1 hd  (kk l p e RM s m args below meth c H locs cells slots mc ms lsA Z)
theorem go_iand {x y : Int32} (hd : decode μ.2.1 pc = .ok (.iand, 1))  (kk : Go G μ d rc rs (pc + 1) ls (.int (x &&& y) :: st) S I R L Q) : Go G μ d rc rs pc ls (.int y :: .int x :: st) S I R L Q := by
  intro l p e RM s m args below meth c H locs cells slots mc ms lsA Z
  exact lv_iand Z.1.1 Z.1.2.1 hd  (kk l p e RM s m args below meth c H locs cells slots mc ms lsA Z)
theorem go_ior {x y : Int32} (hd : decode μ.2.1 pc = .ok (.ior, 1))  (kk : Go G μ d rc rs (pc + 1) ls (.int (x ||| y) :: st) S I R L Q) : Go G μ d rc rs pc ls (.int y :: .int x :: st) S I R L Q := by
  intro l p e RM s m args below meth c H locs cells slots mc ms lsA Z
  exact lv_ior Z.1.1 Z.1.2.1 hd  (kk l p e RM s m args below meth c H locs cells slots mc ms lsA Z)
theorem go_ixor {x y : Int32} (hd : decode μ.2.1 pc = .ok (.ixor, 1))  (kk : Go G μ d rc rs (pc + 1) ls (.int (x ^^^ y) :: st) S I R L Q) : Go G μ d rc rs pc ls (.int y :: .int x :: st) S I R L Q := by
  intro l p e RM s m args below meth c H locs cells slots mc ms lsA Z
  exact lv_ixor Z.1.1 Z.1.2.1 hd  (kk l p e RM s m args below meth c H locs cells slots mc ms lsA Z)
theorem go_ishl {x y : Int32} (hd : decode μ.2.1 pc = .ok (.ishl, 1))  (kk : Go G μ d rc rs (pc + 1) ls (.int (x <<< (y &&& 31)) :: st) S I R L Q) : Go G μ d rc rs pc ls (.int y :: .int x :: st) S I R L Q := by
  intro l p e RM s m args below meth c H locs cells slots mc ms lsA Z
  exact lv_ishl Z.1.1 Z.1.2.1 hd  (kk l p e RM s m args below meth c H locs cells slots mc ms lsA Z)
theorem go_ishr {x y : Int32} (hd : decode μ.2.1 pc = .ok (.ishr, 1))  (kk : Go G μ d rc rs (pc + 1) ls (.int (x >>> (y &&& 31)) :: st) S I R L Q) : Go G μ d rc rs pc ls (.int y :: .int x :: st) S I R L Q := by
  intro l p e RM s m args below meth c H locs cells slots mc ms lsA Z
  exact lv_ishr Z.1.1 Z.1.2.1 hd  (kk l p e RM s m args below meth c H locs cells slots mc ms lsA Z)
theorem go_idiv {x y : Int32} (hd : decode μ.2.1 pc = .ok (.idiv, 1)) (hn : ¬ y = 0) (kk : Go G μ d rc rs (pc + 1) ls (.int (x / y) :: st) S I R L Q) : Go G μ d rc rs pc ls (.int y :: .int x :: st) S I R L Q := by
  intro l p e RM s m args below meth c H locs cells slots mc ms lsA Z
  exact lv_idiv Z.1.1 Z.1.2.1 hd hn (kk l p e RM s m args below meth c H locs cells slots mc ms lsA Z)
theorem go_irem {x y : Int32} (hd : decode μ.2.1 pc = .ok (.irem, 1)) (hn : ¬ y = 0) (kk : Go G μ d rc rs (pc + 1) ls (.int (x - x / y * y) :: st) S I R L Q) : Go G μ d rc rs pc ls (.int y :: .int x :: st) S I R L Q := by
  intro l p e RM s m args below meth c H locs cells slots mc ms lsA Z
  exact lv_irem Z.1.1 Z.1.2.1 hd hn (kk l p e RM s m args below meth c H locs cells slots mc ms lsA Z)
theorem go_ineg {x : Int32} (hd : decode μ.2.1 pc = .ok (.ineg, 1))  (kk : Go G μ d rc rs (pc + 1) ls (.int (-x) :: st) S I R L Q) : Go G μ d rc rs pc ls (.int x :: st) S I R L Q := by
  intro l p e RM s m args below meth c H locs cells slots mc ms lsA Z
  exact lv_ineg Z.1.1 Z.1.2.1 hd  (kk l p e RM s m args below meth c H locs cells slots mc ms lsA Z)
theorem go_iushr {x y : Int32} (hd : decode μ.2.1 pc = .ok (.iushr, 1))  (kk : Go G μ d rc rs (pc + 1) ls (.int ((x.toUInt32 >>> (y.toUInt32 &&& Int32.toUInt32 31)).toInt32) :: st) S I R L Q) : Go G μ d rc rs pc ls (.int y :: .int x :: st) S I R L Q := by
  intro l p e RM s m args below meth c H locs cells slots mc ms lsA Z
  exact lv_iushr Z.1.1 Z.1.2.1 hd rfl (kk l p e RM s m args below meth c H locs cells slots mc ms lsA Z)
theorem go_i2b {x : Int32} (hd : decode μ.2.1 pc = .ok (.i2b, 1))  (kk : Go G μ d rc rs (pc + 1) ls (.int (x.toInt8.toInt32) :: st) S I R L Q) : Go G μ d rc rs pc ls (.int x :: st) S I R L Q := by
  intro l p e RM s m args below meth c H locs cells slots mc ms lsA Z
  exact lv_i2b Z.1.1 Z.1.2.1 hd rfl (kk l p e RM s m args below meth c H locs cells slots mc ms lsA Z)
theorem go_i2c {x : Int32} (hd : decode μ.2.1 pc = .ok (.i2c, 1))  (kk : Go G μ d rc rs (pc + 1) ls (.int ((x.toUInt32 % 65536).toInt32) :: st) S I R L Q) : Go G μ d rc rs pc ls (.int x :: st) S I R L Q := by
  intro l p e RM s m args below meth c H locs cells slots mc ms lsA Z
  exact lv_i2c Z.1.1 Z.1.2.1 hd rfl (kk l p e RM s m args below meth c H locs cells slots mc ms lsA Z)
theorem go_i2l {x : Int32} (hd : decode μ.2.1 pc = .ok (.i2l, 1))  (kk : Go G μ d rc rs (pc + 1) ls (.long (x.toInt64) :: st) S I R L Q) : Go G μ d rc rs pc ls (.int x :: st) S I R L Q := by
  intro l p e RM s m args below meth c H locs cells slots mc ms lsA Z
  exact lv_i2l Z.1.1 Z.1.2.1 hd rfl (kk l p e RM s m args below meth c H locs cells slots mc ms lsA Z)
theorem go_l2i {x : Int64} (hd : decode μ.2.1 pc = .ok (.l2i, 1))  (kk : Go G μ d rc rs (pc + 1) ls (.int (x.toInt32) :: st) S I R L Q) : Go G μ d rc rs pc ls (.long x :: st) S I R L Q := by
  intro l p e RM s m args below meth c H locs cells slots mc ms lsA Z
  exact lv_l2i Z.1.1 Z.1.2.1 hd rfl (kk l p e RM s m args below meth c H locs cells slots mc ms lsA Z)
theorem go_ladd {x y : Int64} (hd : decode μ.2.1 pc = .ok (.ladd, 1))  (kk : Go G μ d rc rs (pc + 1) ls (.long (x + y) :: st) S I R L Q) : Go G μ d rc rs pc ls (.long y :: .long x :: st) S I R L Q := by
  intro l p e RM s m args below meth c H locs cells slots mc ms lsA Z
  exact lv_ladd Z.1.1 Z.1.2.1 hd  (kk l p e RM s m args below meth c H locs cells slots mc ms lsA Z)
theorem go_lsub {x y : Int64} (hd : decode μ.2.1 pc = .ok (.lsub, 1))  (kk : Go G μ d rc rs (pc + 1) ls (.long (x - y) :: st) S I R L Q) : Go G μ d rc rs pc ls (.long y :: .long x :: st) S I R L Q := by
  intro l p e RM s m args below meth c H locs cells slots mc ms lsA Z
  exact lv_lsub Z.1.1 Z.1.2.1 hd  (kk l p e RM s m args below meth c H locs cells slots mc ms lsA Z)
theorem go_lmul {x y : Int64} (hd : decode μ.2.1 pc = .ok (.lmul, 1))  (kk : Go G μ d rc rs (pc + 1) ls (.long (x * y) :: st) S I R L Q) : Go G μ d rc rs pc ls (.long y :: .long x :: st) S I R L Q := by
  intro l p e RM s m args below meth c H locs cells slots mc ms lsA Z
  exact lv_lmul Z.1.1 Z.1.2.1 hd  (kk l p e RM s m args below meth c H locs cells slots mc ms lsA Z)
theorem go_ldiv {x y : Int64} (hd : decode μ.2.1 pc = .ok (.ldiv, 1)) (hn : ¬ y = 0) (kk : Go G μ d rc rs (pc + 1) ls (.long (x / y) :: st) S I R L Q) : Go G μ d rc rs pc ls (.long y :: .long x :: st) S I R L Q := by
  intro l p e RM s m args below meth c H locs cells slots mc ms lsA Z
  exact lv_ldiv Z.1.1 Z.1.2.1 hd hn (kk l p e RM s m args below meth c H locs cells slots mc ms lsA Z)
theorem go_lrem {x y : Int64} (hd : decode μ.2.1 pc = .ok (.lrem, 1)) (hn : ¬ y = 0) (kk : Go G μ d rc rs (pc + 1) ls (.long (x - x / y * y) :: st) S I R L Q) : Go G μ d rc rs pc ls (.long y :: .long x :: st) S I R L Q := by
  intro l p e RM s m args below meth c H locs cells slots mc ms lsA Z
  exact lv_lrem Z.1.1 Z.1.2.1 hd hn (kk l p e RM s m args below meth c H locs cells slots mc ms lsA Z)
theorem go_lneg {x : Int64} (hd : decode μ.2.1 pc = .ok (.lneg, 1))  (kk : Go G μ d rc rs (pc + 1) ls (.long (-x) :: st) S I R L Q) : Go G μ d rc rs pc ls (.long x :: st) S I R L Q := by
  intro l p e RM s m args below meth c H locs cells slots mc ms lsA Z
  exact lv_lneg Z.1.1 Z.1.2.1 hd  (kk l p e RM s m args below meth c H locs cells slots mc ms lsA Z)
theorem go_lcmp {x y : Int64} (hd : decode μ.2.1 pc = .ok (.lcmp, 1))  (kk : Go G μ d rc rs (pc + 1) ls (.int (lg_cmp x y) :: st) S I R L Q) : Go G μ d rc rs pc ls (.long y :: .long x :: st) S I R L Q := by
  intro l p e RM s m args below meth c H locs cells slots mc ms lsA Z
  exact W.lcmp Z.1.1 Z.1.2.1 hd  (kk l p e RM s m args below meth c H locs cells slots mc ms lsA Z)
theorem go_dup {v : Value} (hd : decode μ.2.1 pc = .ok (.dup, 1)) (hv : v.category = 1) (kk : Go G μ d rc rs (pc + 1) ls (v :: v :: st) S I R L Q) : Go G μ d rc rs pc ls (v :: st) S I R L Q := by
  intro l p e RM s m args below meth c H locs cells slots mc ms lsA Z
  exact lv_dup Z.1.1 Z.1.2.1 hd (by rw [cv_cat]; exact hv) (kk l p e RM s m args below meth c H locs cells slots mc ms lsA Z)
theorem go_dup2 {v w : Value} (hd : decode μ.2.1 pc = .ok (.dup2, 1)) (hv : v.category = 1) (hw : w.category = 1) (kk : Go G μ d rc rs (pc + 1) ls (v :: w :: v :: w :: st) S I R L Q) : Go G μ d rc rs pc ls (v :: w :: st) S I R L Q := by
  intro l p e RM s m args below meth c H locs cells slots mc ms lsA Z
  exact lv_dup2_11 Z.1.1 Z.1.2.1 hd (by rw [cv_cat]; exact hv) (by rw [cv_cat]; exact hw) (kk l p e RM s m args below meth c H locs cells slots mc ms lsA Z)
theorem go_pop {v : Value} (hd : decode μ.2.1 pc = .ok (.pop, 1)) (hv : v.category = 1) (kk : Go G μ d rc rs (pc + 1) ls st S I R L Q) : Go G μ d rc rs pc ls (v :: st) S I R L Q := by
  intro l p e RM s m args below meth c H locs cells slots mc ms lsA Z
  exact lv_pop Z.1.1 Z.1.2.1 hd (by rw [cv_cat]; exact hv) (kk l p e RM s m args below meth c H locs cells slots mc ms lsA Z)
theorem go_if_eq {x : Int32} {off : Int} (tgt : Nat) (hd : decode μ.2.1 pc = .ok (.ifCond .eq off, 3)) (ht : (pc : Int) + off = (tgt : Int)) (kt : x = 0 → Go G μ d rc rs tgt ls st S I R L Q) (kf : ¬ x = 0 → Go G μ d rc rs (pc + 3) ls st S I R L Q) : Go G μ d rc rs pc ls (.int x :: st) S I R L Q := by
  intro l p e RM s m args below meth c H locs cells slots mc ms lsA Z
  exact lv_if_eq Z.1.1 Z.1.2.1 hd ht (fun h => (kt h l p e RM s m args below meth c H locs cells slots mc ms lsA Z)) (fun h => (kf h l p e RM s m args below meth c H locs cells slots mc ms lsA Z))
theorem go_if_ne {x : Int32} {off : Int} (tgt : Nat) (hd : decode μ.2.1 pc = .ok (.ifCond .ne off, 3)) (ht : (pc : Int) + off = (tgt : Int)) (kt : ¬ x = 0 → Go G μ d rc rs tgt ls st S I R L Q) (kf : x = 0 → Go G μ d rc rs (pc + 3) ls st S I R L Q) : Go G μ d rc rs pc ls (.int x :: st) S I R L Q := by
  intro l p e RM s m args below meth c H locs cells slots mc ms lsA Z
  exact lv_if_ne Z.1.1 Z.1.2.1 hd ht (fun h => (kt h l p e RM s m args below meth c H locs cells slots mc ms lsA Z)) (fun h => (kf h l p e RM s m args below meth c H locs cells slots mc ms lsA Z))
theorem go_if_lt {x : Int32} {off : Int} (tgt : Nat) (hd : decode μ.2.1 pc = .ok (.ifCond .lt off, 3)) (ht : (pc : Int) + off = (tgt : Int)) (kt : x < 0 → Go G μ d rc rs tgt ls st S I R L Q) (kf : ¬ x < 0 → Go G μ d rc rs (pc + 3) ls st S I R L Q) : Go G μ d rc rs pc ls (.int x :: st) S I R L Q := by
  intro l p e RM s m args below meth c H locs cells slots mc ms lsA Z
  exact lv_if_lt Z.1.1 Z.1.2.1 hd ht (fun h => (kt h l p e RM s m args below meth c H locs cells slots mc ms lsA Z)) (fun h => (kf h l p e RM s m args below meth c H locs cells slots mc ms lsA Z))
theorem go_if_ge {x : Int32} {off : Int} (tgt : Nat) (hd : decode μ.2.1 pc = .ok (.ifCond .ge off, 3)) (ht : (pc : Int) + off = (tgt : Int)) (kt : 0 ≤ x → Go G μ d rc rs tgt ls st S I R L Q) (kf : ¬ 0 ≤ x → Go G μ d rc rs (pc + 3) ls st S I R L Q) : Go G μ d rc rs pc ls (.int x :: st) S I R L Q := by
  intro l p e RM s m args below meth c H locs cells slots mc ms lsA Z
  exact lv_if_ge Z.1.1 Z.1.2.1 hd ht (fun h => (kt h l p e RM s m args below meth c H locs cells slots mc ms lsA Z)) (fun h => (kf h l p e RM s m args below meth c H locs cells slots mc ms lsA Z))
theorem go_if_gt {x : Int32} {off : Int} (tgt : Nat) (hd : decode μ.2.1 pc = .ok (.ifCond .gt off, 3)) (ht : (pc : Int) + off = (tgt : Int)) (kt : 0 < x → Go G μ d rc rs tgt ls st S I R L Q) (kf : ¬ 0 < x → Go G μ d rc rs (pc + 3) ls st S I R L Q) : Go G μ d rc rs pc ls (.int x :: st) S I R L Q := by
  intro l p e RM s m args below meth c H locs cells slots mc ms lsA Z
  exact lv_if_gt Z.1.1 Z.1.2.1 hd ht (fun h => (kt h l p e RM s m args below meth c H locs cells slots mc ms lsA Z)) (fun h => (kf h l p e RM s m args below meth c H locs cells slots mc ms lsA Z))
theorem go_if_le {x : Int32} {off : Int} (tgt : Nat) (hd : decode μ.2.1 pc = .ok (.ifCond .le off, 3)) (ht : (pc : Int) + off = (tgt : Int)) (kt : x ≤ 0 → Go G μ d rc rs tgt ls st S I R L Q) (kf : ¬ x ≤ 0 → Go G μ d rc rs (pc + 3) ls st S I R L Q) : Go G μ d rc rs pc ls (.int x :: st) S I R L Q := by
  intro l p e RM s m args below meth c H locs cells slots mc ms lsA Z
  exact lv_if_le Z.1.1 Z.1.2.1 hd ht (fun h => (kt h l p e RM s m args below meth c H locs cells slots mc ms lsA Z)) (fun h => (kf h l p e RM s m args below meth c H locs cells slots mc ms lsA Z))
theorem go_icmp_eq {x y : Int32} {off : Int} (tgt : Nat) (hd : decode μ.2.1 pc = .ok (.if_icmp .eq off, 3)) (ht : (pc : Int) + off = (tgt : Int)) (kt : x = y → Go G μ d rc rs tgt ls st S I R L Q) (kf : ¬ x = y → Go G μ d rc rs (pc + 3) ls st S I R L Q) : Go G μ d rc rs pc ls (.int y :: .int x :: st) S I R L Q := by
  intro l p e RM s m args below meth c H locs cells slots mc ms lsA Z
  exact lv_icmp_eq Z.1.1 Z.1.2.1 hd ht (fun h => (kt h l p e RM s m args below meth c H locs cells slots mc ms lsA Z)) (fun h => (kf h l p e RM s m args below meth c H locs cells slots mc ms lsA Z))
theorem go_icmp_ne {x y : Int32} {off : Int} (tgt : Nat) (hd : decode μ.2.1 pc = .ok (.if_icmp .ne off, 3)) (ht : (pc : Int) + off = (tgt : Int)) (kt : ¬ x = y → Go G μ d rc rs tgt ls st S I R L Q) (kf : x = y → Go G μ d rc rs (pc + 3) ls st S I R L Q) : Go G μ d rc rs pc ls (.int y :: .int x :: st) S I R L Q := by
  intro l p e RM s m args below meth c H locs cells slots mc ms lsA Z
  exact lv_icmp_ne Z.1.1 Z.1.2.1 hd ht (fun h => (kt h l p e RM s m args below meth c H locs cells slots mc ms lsA Z)) (fun h => (kf h l p e RM s m args below meth c H locs cells slots mc ms lsA Z))
theorem go_icmp_lt {x y : Int32} {off : Int} (tgt : Nat) (hd : decode μ.2.1 pc = .ok (.if_icmp .lt off, 3)) (ht : (pc : Int) + off = (tgt : Int)) (kt : x < y → Go G μ d rc rs tgt ls st S I R L Q) (kf : ¬ x < y → Go G μ d rc rs (pc + 3) ls st S I R L Q) : Go G μ d rc rs pc ls (.int y :: .int x :: st) S I R L Q := by
  intro l p e RM s m args below meth c H locs cells slots mc ms lsA Z
  exact lv_icmp_lt Z.1.1 Z.1.2.1 hd ht (fun h => (kt h l p e RM s m args below meth c H locs cells slots mc ms lsA Z)) (fun h => (kf h l p e RM s m args below meth c H locs cells slots mc ms lsA Z))
theorem go_icmp_ge {x y : Int32} {off : Int} (tgt : Nat) (hd : decode μ.2.1 pc = .ok (.if_icmp .ge off, 3)) (ht : (pc : Int) + off = (tgt : Int)) (kt : y ≤ x → Go G μ d rc rs tgt ls st S I R L Q) (kf : ¬ y ≤ x → Go G μ d rc rs (pc + 3) ls st S I R L Q) : Go G μ d rc rs pc ls (.int y :: .int x :: st) S I R L Q := by
  intro l p e RM s m args below meth c H locs cells slots mc ms lsA Z
  exact lv_icmp_ge Z.1.1 Z.1.2.1 hd ht (fun h => (kt h l p e RM s m args below meth c H locs cells slots mc ms lsA Z)) (fun h => (kf h l p e RM s m args below meth c H locs cells slots mc ms lsA Z))
theorem go_icmp_gt {x y : Int32} {off : Int} (tgt : Nat) (hd : decode μ.2.1 pc = .ok (.if_icmp .gt off, 3)) (ht : (pc : Int) + off = (tgt : Int)) (kt : y < x → Go G μ d rc rs tgt ls st S I R L Q) (kf : ¬ y < x → Go G μ d rc rs (pc + 3) ls st S I R L Q) : Go G μ d rc rs pc ls (.int y :: .int x :: st) S I R L Q := by
  intro l p e RM s m args below meth c H locs cells slots mc ms lsA Z
  exact lv_icmp_gt Z.1.1 Z.1.2.1 hd ht (fun h => (kt h l p e RM s m args below meth c H locs cells slots mc ms lsA Z)) (fun h => (kf h l p e RM s m args below meth c H locs cells slots mc ms lsA Z))
theorem go_icmp_le {x y : Int32} {off : Int} (tgt : Nat) (hd : decode μ.2.1 pc = .ok (.if_icmp .le off, 3)) (ht : (pc : Int) + off = (tgt : Int)) (kt : x ≤ y → Go G μ d rc rs tgt ls st S I R L Q) (kf : ¬ x ≤ y → Go G μ d rc rs (pc + 3) ls st S I R L Q) : Go G μ d rc rs pc ls (.int y :: .int x :: st) S I R L Q := by
  intro l p e RM s m args below meth c H locs cells slots mc ms lsA Z
  exact lv_icmp_le Z.1.1 Z.1.2.1 hd ht (fun h => (kt h l p e RM s m args below meth c H locs cells slots mc ms lsA Z)) (fun h => (kf h l p e RM s m args below meth c H locs cells slots mc ms lsA Z))
theorem go_goto {off : Int} (tgt : Nat) (hd : decode μ.2.1 pc = .ok (.goto off, 3)) (ht : (pc : Int) + off = (tgt : Int)) (kk : Go G μ d rc rs tgt ls st S I R L Q) : Go G μ d rc rs pc ls st S I R L Q := by
  intro l p e RM s m args below meth c H locs cells slots mc ms lsA Z
  exact lv_goto Z.1.1 Z.1.2.1 hd ht (kk l p e RM s m args below meth c H locs cells slots mc ms lsA Z)
theorem go_ifnull_r {a : Nat} {off : Int} (hd : decode μ.2.1 pc = .ok (.ifnull off, 3)) (kk : Go G μ d rc rs (pc + 3) ls st S I R L Q) : Go G μ d rc rs pc ls (.ref a :: st) S I R L Q := by
  intro l p e RM s m args below meth c H locs cells slots mc ms lsA Z
  exact lv_ifnull Z.1.1 Z.1.2.1 hd (kk l p e RM s m args below meth c H locs cells slots mc ms lsA Z)
theorem go_ifnull_n {off : Int} (tgt : Nat) (hd : decode μ.2.1 pc = .ok (.ifnull off, 3)) (ht : (pc : Int) + off = (tgt : Int)) (kk : Go G μ d rc rs tgt ls st S I R L Q) : Go G μ d rc rs pc ls (.null :: st) S I R L Q := by
  intro l p e RM s m args below meth c H locs cells slots mc ms lsA Z
  exact lv_ifnullN Z.1.1 Z.1.2.1 hd ht (kk l p e RM s m args below meth c H locs cells slots mc ms lsA Z)
theorem go_ifnonnull_r {a : Nat} {off : Int} (tgt : Nat) (hd : decode μ.2.1 pc = .ok (.ifnonnull off, 3)) (ht : (pc : Int) + off = (tgt : Int)) (kk : Go G μ d rc rs tgt ls st S I R L Q) : Go G μ d rc rs pc ls (.ref a :: st) S I R L Q := by
  intro l p e RM s m args below meth c H locs cells slots mc ms lsA Z
  exact lv_ifnonnull Z.1.1 Z.1.2.1 hd ht (kk l p e RM s m args below meth c H locs cells slots mc ms lsA Z)
theorem go_ifnonnull_n {off : Int} (hd : decode μ.2.1 pc = .ok (.ifnonnull off, 3)) (kk : Go G μ d rc rs (pc + 3) ls st S I R L Q) : Go G μ d rc rs pc ls (.null :: st) S I R L Q := by
  intro l p e RM s m args below meth c H locs cells slots mc ms lsA Z
  exact lv_ifnonnullN Z.1.1 Z.1.2.1 hd (kk l p e RM s m args below meth c H locs cells slots mc ms lsA Z)
theorem go_tsOut {dflt lo hi : Int} {offs : Array Int} {len : Nat} {x : Int32} (tgt : Nat) (hd : decode μ.2.1 pc = .ok (.tableswitch dflt lo hi offs, len)) (h : x.toInt < lo ∨ hi < x.toInt) (ht : (pc : Int) + dflt = (tgt : Int)) (kk : Go G μ d rc rs tgt ls st S I R L Q) : Go G μ d rc rs pc ls (.int x :: st) S I R L Q := by
  intro l p e RM s m args below meth c H locs cells slots mc ms lsA Z
  exact lv_tableOut Z.1.1 Z.1.2.1 hd h ht (kk l p e RM s m args below meth c H locs cells slots mc ms lsA Z)
theorem go_tsIn {dflt lo hi : Int} {offs : Array Int} {len : Nat} {x : Int32} {off : Int} (tgt : Nat) (hd : decode μ.2.1 pc = .ok (.tableswitch dflt lo hi offs, len)) (h1 : ¬ x.toInt < lo) (h2 : ¬ hi < x.toInt) (ho : offs[(x.toInt - lo).toNat]? = some off) (ht : (pc : Int) + off = (tgt : Int)) (kk : Go G μ d rc rs tgt ls st S I R L Q) : Go G μ d rc rs pc ls (.int x :: st) S I R L Q := by
  intro l p e RM s m args below meth c H locs cells slots mc ms lsA Z
  exact lv_tableIn Z.1.1 Z.1.2.1 hd h1 h2 ho ht (kk l p e RM s m args below meth c H locs cells slots mc ms lsA Z)
theorem go_ls {dflt : Int} {ps : Array (Int × Int)} {len : Nat} {x : Int32} {off : Int} (tgt : Nat) (hd : decode μ.2.1 pc = .ok (.lookupswitch dflt ps, len)) (hp : (ps.toList.zip (ps.toList.drop 1)).all (fun (a, next) => a.1 < next.1) = true) (ho : Op.lookupswitch.offset ps.toList dflt x.toInt = off) (ht : (pc : Int) + off = (tgt : Int)) (kk : Go G μ d rc rs tgt ls st S I R L Q) : Go G μ d rc rs pc ls (.int x :: st) S I R L Q := by
  intro l p e RM s m args below meth c H locs cells slots mc ms lsA Z
  exact lv_lookup Z.1.1 Z.1.2.1 hd hp ho ht (kk l p e RM s m args below meth c H locs cells slots mc ms lsA Z)
theorem go_ldc {idx : Nat} {v : Int32} (hw : Cond.constant μ.1.cls idx v ∈ g_t) (hd : decode μ.2.1 pc = .ok (.ldc idx, 2)) (kk : Go G μ d rc rs (pc + 2) ls (.int v :: st) S I R L Q) : Go G μ d rc rs pc ls st S I R L Q := by
  intro l p e RM s m args below meth c H locs cells slots mc ms lsA Z
  exact lv_ldc Z.1.1 Z.1.2.1 Z.1.2.2.2.2.2.1 (Z.1.2.2.2.2.2.2.1 _ hw) hd (kk l p e RM s m args below meth c H locs cells slots mc ms lsA Z)
theorem go_ldcw {idx : Nat} {v : Int32} (hw : Cond.constant μ.1.cls idx v ∈ g_t) (hd : decode μ.2.1 pc = .ok (.ldc_w idx, 3)) (kk : Go G μ d rc rs (pc + 3) ls (.int v :: st) S I R L Q) : Go G μ d rc rs pc ls st S I R L Q := by
  intro l p e RM s m args below meth c H locs cells slots mc ms lsA Z
  exact lv_ldcw Z.1.1 Z.1.2.1 Z.1.2.2.2.2.2.1 (Z.1.2.2.2.2.2.2.1 _ hw) hd (kk l p e RM s m args below meth c H locs cells slots mc ms lsA Z)
theorem go_ldc2 {idx : Nat} {v : Int64} (hw : Cond.constantLong μ.1.cls idx v ∈ g_t) (hd : decode μ.2.1 pc = .ok (.ldc2_w idx, 3)) (kk : Go G μ d rc rs (pc + 3) ls (.long v :: st) S I R L Q) : Go G μ d rc rs pc ls st S I R L Q := by
  intro l p e RM s m args below meth c H locs cells slots mc ms lsA Z
  exact lv_ldc2 Z.1.1 Z.1.2.1 Z.1.2.2.2.2.2.1 (Z.1.2.2.2.2.2.2.1 _ hw) hd (kk l p e RM s m args below meth c H locs cells slots mc ms lsA Z)
theorem go_iload_n {k : Fin 4} {x : Int32} (hd : decode μ.2.1 pc = .ok (.iload_n k, 1)) (hx : ls[(k : Nat)]? = some (some (.int x))) (kk : Go G μ d rc rs (pc + 1) ls (.int x :: st) S I R L Q) : Go G μ d rc rs pc ls st S I R L Q := by
  intro l p e RM s m args below meth c H locs cells slots mc ms lsA Z
  exact lv_iload_n Z.1.1 Z.1.2.1 hd rfl (Z.2.2.2.2.2.2.2 _ _ hx) (kk l p e RM s m args below meth c H locs cells slots mc ms lsA Z)
theorem go_iload {i : Nat} {x : Int32} (hd : decode μ.2.1 pc = .ok (.iload i, 2)) (hx : ls[i]? = some (some (.int x))) (kk : Go G μ d rc rs (pc + 2) ls (.int x :: st) S I R L Q) : Go G μ d rc rs pc ls st S I R L Q := by
  intro l p e RM s m args below meth c H locs cells slots mc ms lsA Z
  exact lv_iload Z.1.1 Z.1.2.1 hd (Z.2.2.2.2.2.2.2 _ _ hx) (kk l p e RM s m args below meth c H locs cells slots mc ms lsA Z)
theorem go_lload_n {k : Fin 4} {x : Int64} (hd : decode μ.2.1 pc = .ok (.lload_n k, 1)) (hx : ls[(k : Nat)]? = some (some (.long x))) (kk : Go G μ d rc rs (pc + 1) ls (.long x :: st) S I R L Q) : Go G μ d rc rs pc ls st S I R L Q := by
  intro l p e RM s m args below meth c H locs cells slots mc ms lsA Z
  exact lv_lload_n Z.1.1 Z.1.2.1 hd rfl (Z.2.2.2.2.2.2.2 _ _ hx) (kk l p e RM s m args below meth c H locs cells slots mc ms lsA Z)
theorem go_lload {i : Nat} {x : Int64} (hd : decode μ.2.1 pc = .ok (.lload i, 2)) (hx : ls[i]? = some (some (.long x))) (kk : Go G μ d rc rs (pc + 2) ls (.long x :: st) S I R L Q) : Go G μ d rc rs pc ls st S I R L Q := by
  intro l p e RM s m args below meth c H locs cells slots mc ms lsA Z
  exact lv_lload Z.1.1 Z.1.2.1 hd (Z.2.2.2.2.2.2.2 _ _ hx) (kk l p e RM s m args below meth c H locs cells slots mc ms lsA Z)
theorem go_aload_n {k : Fin 4} {x : Nat} (hd : decode μ.2.1 pc = .ok (.aload_n k, 1)) (hx : ls[(k : Nat)]? = some (some (.ref x))) (kk : Go G μ d rc rs (pc + 1) ls (.ref x :: st) S I R L Q) : Go G μ d rc rs pc ls st S I R L Q := by
  intro l p e RM s m args below meth c H locs cells slots mc ms lsA Z
  exact lv_aload_n Z.1.1 Z.1.2.1 hd rfl (Z.2.2.2.2.2.2.2 _ _ hx) (kk l p e RM s m args below meth c H locs cells slots mc ms lsA Z)
theorem go_aload {i : Nat} {x : Nat} (hd : decode μ.2.1 pc = .ok (.aload i, 2)) (hx : ls[i]? = some (some (.ref x))) (kk : Go G μ d rc rs (pc + 2) ls (.ref x :: st) S I R L Q) : Go G μ d rc rs pc ls st S I R L Q := by
  intro l p e RM s m args below meth c H locs cells slots mc ms lsA Z
  exact lv_aload Z.1.1 Z.1.2.1 hd (Z.2.2.2.2.2.2.2 _ _ hx) (kk l p e RM s m args below meth c H locs cells slots mc ms lsA Z)
theorem go_aloadX_n {k : Fin 4} {x : UInt32} (hd : decode μ.2.1 pc = .ok (.aload_n k, 1)) (hx : ls[(k : Nat)]? = some (some (.float x))) (kk : Go G μ d rc rs (pc + 1) ls (.float x :: st) S I R L Q) : Go G μ d rc rs pc ls st S I R L Q := by
  intro l p e RM s m args below meth c H locs cells slots mc ms lsA Z
  exact lv_aload_n Z.1.1 Z.1.2.1 hd rfl (Z.2.2.2.2.2.2.2 _ _ hx) (kk l p e RM s m args below meth c H locs cells slots mc ms lsA Z)
theorem go_aloadX {i : Nat} {x : UInt32} (hd : decode μ.2.1 pc = .ok (.aload i, 2)) (hx : ls[i]? = some (some (.float x))) (kk : Go G μ d rc rs (pc + 2) ls (.float x :: st) S I R L Q) : Go G μ d rc rs pc ls st S I R L Q := by
  intro l p e RM s m args below meth c H locs cells slots mc ms lsA Z
  exact lv_aload Z.1.1 Z.1.2.1 hd (Z.2.2.2.2.2.2.2 _ _ hx) (kk l p e RM s m args below meth c H locs cells slots mc ms lsA Z)
theorem go_aloadN_n {k : Fin 4} (hd : decode μ.2.1 pc = .ok (.aload_n k, 1)) (hx : ls[(k : Nat)]? = some (some .null)) (kk : Go G μ d rc rs (pc + 1) ls (.null :: st) S I R L Q) : Go G μ d rc rs pc ls st S I R L Q := by
  intro l p e RM s m args below meth c H locs cells slots mc ms lsA Z
  exact lv_aload_nN Z.1.1 Z.1.2.1 hd rfl (Z.2.2.2.2.2.2.2 _ _ hx) (kk l p e RM s m args below meth c H locs cells slots mc ms lsA Z)
/-- the place ahead isn't the first half of a long -/
def g_ok (ls : List (Option Value)) : Nat → Bool
  | 0 => true
  | j + 1 => match ls[j]? with
    | some (some (.long _)) => false
    | some (some (.double _)) => false
    | _ => true
def g_pr (G : gG) (ls : List (Option Value)) : List (Nat × Value) := (List.range ls.length).filterMap (fun k => match ls[k]? with
  | some (some v) => some (k, cv G v)
  | _ => none)
theorem g_pr_mem {G : gG} {ls : List (Option Value)} {q : Nat × Value} : q ∈ g_pr G ls ↔ ∃ v, ls[q.1]? = some (some v) ∧ q.2 = cv G v := by
  obtain ⟨i, w⟩ := q
  simp only [g_pr, List.mem_filterMap, List.mem_range]
  constructor
  · rintro ⟨k, hk, h⟩
    split at h
    · rename_i v hv
      simp only [Option.some.injEq, Prod.mk.injEq] at h
      obtain ⟨rfl, rfl⟩ := h
      exact ⟨v, hv, rfl⟩
    · cases h
  · rintro ⟨v, hv, rfl⟩
    refine ⟨i, (List.getElem?_eq_some_iff.mp hv).1, ?_⟩
    simp [hv]
theorem g_L_has {G : gG} {lsA : Array Slot} {n : Nat} {ls : List (Option Value)} (h : g_L G lsA n ls) : lv_has lsA n (g_pr G ls) := by
  refine ⟨h.1, h.2.1, fun q hq => ?_⟩
  obtain ⟨v, hv, e⟩ := g_pr_mem.mp hq
  rw [e]
  exact h.2.2 _ _ hv
theorem g_L_st1 {G : gG} {lsA : Array Slot} {n i : Nat} {ls : List (Option Value)} {v : Value} (ho : g_ok ls i = true) (h : lv_has lsA n ((i, cv G v) :: (g_pr G ls).filter (fun q => !(q.1 == i) && !(q.1 + 1 == i && q.2.category == 2)))) : g_L G lsA n (ls.set i (some v)) := by
  refine ⟨h.1, h.2.1, fun k w hk => ?_⟩
  by_cases hki : k = i
  · subst hki
    have hl : k < (ls.set k (some v)).length := (List.getElem?_eq_some_iff.mp hk).1
    rw [List.length_set] at hl
    rw [List.getElem?_set_self hl] at hk
    cases hk
    exact h.2.2 (k, cv G v) List.mem_cons_self
  · rw [List.getElem?_set_ne (Ne.symm hki)] at hk
    refine h.2.2 (k, cv G w) (List.mem_cons_of_mem _ (List.mem_filter.mpr ⟨g_pr_mem.mpr ⟨w, hk, rfl⟩, ?_⟩))
    have h1 : ¬ (k + 1 = i ∧ (cv G w).category = 2) := by
      rintro ⟨e1, e2⟩
      subst e1
      rw [cv_cat] at e2
      simp only [g_ok, hk] at ho
      cases w <;> simp_all [Value.category]
    simp only [Bool.and_eq_true, Bool.not_eq_true', beq_eq_false_iff_ne, ne_eq, Bool.and_eq_false_iff]
    refine ⟨hki, ?_⟩
    by_cases e1 : k + 1 = i
    · exact Or.inr (fun e2 => h1 ⟨e1, e2⟩)
    · exact Or.inl e1
theorem g_L_st2 {G : gG} {lsA : Array Slot} {n i : Nat} {ls : List (Option Value)} {v : Value} (ho : g_ok ls i = true) (h : lv_has lsA n ((i, cv G v) :: (g_pr G ls).filter (fun q => !(q.1 == i) && (!(q.1 == i + 1) && !(q.1 + 1 == i && q.2.category == 2))))) : g_L G lsA n ((ls.set i (some v)).set (i + 1) none) := by
  refine ⟨h.1, h.2.1, fun k w hk => ?_⟩
  by_cases hk2 : k = i + 1
  · subst hk2
    rw [List.getElem?_set] at hk
    split at hk
    · split at hk <;> simp at hk
    · rename_i hne
      exact absurd rfl hne
  rw [List.getElem?_set_ne (Ne.symm hk2)] at hk
  by_cases hki : k = i
  · subst hki
    have hl : k < (ls.set k (some v)).length := (List.getElem?_eq_some_iff.mp hk).1
    rw [List.length_set] at hl
    rw [List.getElem?_set_self hl] at hk
    cases hk
    exact h.2.2 (k, cv G v) List.mem_cons_self
  · rw [List.getElem?_set_ne (Ne.symm hki)] at hk
    refine h.2.2 (k, cv G w) (List.mem_cons_of_mem _ (List.mem_filter.mpr ⟨g_pr_mem.mpr ⟨w, hk, rfl⟩, ?_⟩))
    have h1 : ¬ (k + 1 = i ∧ (cv G w).category = 2) := by
      rintro ⟨e1, e2⟩
      subst e1
      rw [cv_cat] at e2
      simp only [g_ok, hk] at ho
      cases w <;> simp_all [Value.category]
    simp only [Bool.and_eq_true, Bool.not_eq_true', beq_eq_false_iff_ne, ne_eq, Bool.and_eq_false_iff]
    refine ⟨hki, hk2, ?_⟩
    by_cases e1 : k + 1 = i
    · exact Or.inr (fun e2 => h1 ⟨e1, e2⟩)
    · exact Or.inl e1
theorem go_istore_n {k : Fin 4} {x : Int32} (hd : decode μ.2.1 pc = .ok (.istore_n k, 1)) (hn : k.val < μ.2.2.1) (hok : g_ok ls k.val = true) (kk : Go G μ d rc rs (pc + 1) (ls.set k.val (some (.int x))) st S I R L Q) : Go G μ d rc rs pc ls (.int x :: st) S I R L Q := by
  intro l p e RM s m args below meth c H locs cells slots mc ms lsA Z
  exact lv_istore_n Z.1.1 Z.1.2.1 hd rfl (g_L_has Z.2.2.2.2.2) hn rfl (fun ls2 h2 => (kk l p e RM s m args below meth c H locs cells slots mc ms ls2 ⟨Z.1, Z.2.1, Z.2.2.1, Z.2.2.2.1, Z.2.2.2.2.1, g_L_st1 hok h2⟩))
theorem go_istore {i : Nat} {x : Int32} (hd : decode μ.2.1 pc = .ok (.istore i, 2)) (hn : i < μ.2.2.1) (hok : g_ok ls i = true) (kk : Go G μ d rc rs (pc + 2) (ls.set i (some (.int x))) st S I R L Q) : Go G μ d rc rs pc ls (.int x :: st) S I R L Q := by
  intro l p e RM s m args below meth c H locs cells slots mc ms lsA Z
  exact lv_istore Z.1.1 Z.1.2.1 hd (g_L_has Z.2.2.2.2.2) hn rfl (fun ls2 h2 => (kk l p e RM s m args below meth c H locs cells slots mc ms ls2 ⟨Z.1, Z.2.1, Z.2.2.1, Z.2.2.2.1, Z.2.2.2.2.1, g_L_st1 hok h2⟩))
theorem go_lstore_n {k : Fin 4} {x : Int64} (hd : decode μ.2.1 pc = .ok (.lstore_n k, 1)) (hn : k.val + 1 < μ.2.2.1) (hok : g_ok ls k.val = true) (kk : Go G μ d rc rs (pc + 1) ((ls.set k.val (some (.long x))).set (k.val + 1) none) st S I R L Q) : Go G μ d rc rs pc ls (.long x :: st) S I R L Q := by
  intro l p e RM s m args below meth c H locs cells slots mc ms lsA Z
  exact lv_lstore_n Z.1.1 Z.1.2.1 hd rfl (g_L_has Z.2.2.2.2.2) hn rfl (fun ls2 h2 => (kk l p e RM s m args below meth c H locs cells slots mc ms ls2 ⟨Z.1, Z.2.1, Z.2.2.1, Z.2.2.2.1, Z.2.2.2.2.1, g_L_st2 hok h2⟩))
theorem go_lstore {i : Nat} {x : Int64} (hd : decode μ.2.1 pc = .ok (.lstore i, 2)) (hn : i + 1 < μ.2.2.1) (hok : g_ok ls i = true) (kk : Go G μ d rc rs (pc + 2) ((ls.set i (some (.long x))).set (i + 1) none) st S I R L Q) : Go G μ d rc rs pc ls (.long x :: st) S I R L Q := by
  intro l p e RM s m args below meth c H locs cells slots mc ms lsA Z
  exact lv_lstore Z.1.1 Z.1.2.1 hd (g_L_has Z.2.2.2.2.2) hn rfl (fun ls2 h2 => (kk l p e RM s m args below meth c H locs cells slots mc ms ls2 ⟨Z.1, Z.2.1, Z.2.2.1, Z.2.2.2.1, Z.2.2.2.2.1, g_L_st2 hok h2⟩))
theorem go_astore_n {k : Fin 4} {x : Nat} (hd : decode μ.2.1 pc = .ok (.astore_n k, 1)) (hn : k.val < μ.2.2.1) (hok : g_ok ls k.val = true) (kk : Go G μ d rc rs (pc + 1) (ls.set k.val (some (.ref x))) st S I R L Q) : Go G μ d rc rs pc ls (.ref x :: st) S I R L Q := by
  intro l p e RM s m args below meth c H locs cells slots mc ms lsA Z
  exact lv_astore_n Z.1.1 Z.1.2.1 hd rfl (g_L_has Z.2.2.2.2.2) hn rfl (fun ls2 h2 => (kk l p e RM s m args below meth c H locs cells slots mc ms ls2 ⟨Z.1, Z.2.1, Z.2.2.1, Z.2.2.2.1, Z.2.2.2.2.1, g_L_st1 hok h2⟩))
theorem go_astore {i : Nat} {x : Nat} (hd : decode μ.2.1 pc = .ok (.astore i, 2)) (hn : i < μ.2.2.1) (hok : g_ok ls i = true) (kk : Go G μ d rc rs (pc + 2) (ls.set i (some (.ref x))) st S I R L Q) : Go G μ d rc rs pc ls (.ref x :: st) S I R L Q := by
  intro l p e RM s m args below meth c H locs cells slots mc ms lsA Z
  exact lv_astore Z.1.1 Z.1.2.1 hd (g_L_has Z.2.2.2.2.2) hn rfl (fun ls2 h2 => (kk l p e RM s m args below meth c H locs cells slots mc ms ls2 ⟨Z.1, Z.2.1, Z.2.2.1, Z.2.2.2.1, Z.2.2.2.2.1, g_L_st1 hok h2⟩))
theorem go_astoreX_n {k : Fin 4} {x : UInt32} (hd : decode μ.2.1 pc = .ok (.astore_n k, 1)) (hn : k.val < μ.2.2.1) (hok : g_ok ls k.val = true) (kk : Go G μ d rc rs (pc + 1) (ls.set k.val (some (.float x))) st S I R L Q) : Go G μ d rc rs pc ls (.float x :: st) S I R L Q := by
  intro l p e RM s m args below meth c H locs cells slots mc ms lsA Z
  exact lv_astore_n Z.1.1 Z.1.2.1 hd rfl (g_L_has Z.2.2.2.2.2) hn rfl (fun ls2 h2 => (kk l p e RM s m args below meth c H locs cells slots mc ms ls2 ⟨Z.1, Z.2.1, Z.2.2.1, Z.2.2.2.1, Z.2.2.2.2.1, g_L_st1 hok h2⟩))
theorem go_astoreX {i : Nat} {x : UInt32} (hd : decode μ.2.1 pc = .ok (.astore i, 2)) (hn : i < μ.2.2.1) (hok : g_ok ls i = true) (kk : Go G μ d rc rs (pc + 2) (ls.set i (some (.float x))) st S I R L Q) : Go G μ d rc rs pc ls (.float x :: st) S I R L Q := by
  intro l p e RM s m args below meth c H locs cells slots mc ms lsA Z
  exact lv_astore Z.1.1 Z.1.2.1 hd (g_L_has Z.2.2.2.2.2) hn rfl (fun ls2 h2 => (kk l p e RM s m args below meth c H locs cells slots mc ms ls2 ⟨Z.1, Z.2.1, Z.2.2.1, Z.2.2.2.1, Z.2.2.2.2.1, g_L_st1 hok h2⟩))
theorem go_astoreN_n {k : Fin 4} (hd : decode μ.2.1 pc = .ok (.astore_n k, 1)) (hn : k.val < μ.2.2.1) (hok : g_ok ls k.val = true) (kk : Go G μ d rc rs (pc + 1) (ls.set k.val (some .null)) st S I R L Q) : Go G μ d rc rs pc ls (.null :: st) S I R L Q := by
  intro l p e RM s m args below meth c H locs cells slots mc ms lsA Z
  exact lv_astore_nN Z.1.1 Z.1.2.1 hd rfl (g_L_has Z.2.2.2.2.2) hn rfl (fun ls2 h2 => (kk l p e RM s m args below meth c H locs cells slots mc ms ls2 ⟨Z.1, Z.2.1, Z.2.2.1, Z.2.2.2.1, Z.2.2.2.2.1, g_L_st1 hok h2⟩))
theorem go_iinc {i : Nat} {n : Int} {x : Int32} (hd : decode μ.2.1 pc = .ok (.iinc i n, 3)) (hx : ls[i]? = some (some (.int x))) (hn : i < μ.2.2.1) (hok : g_ok ls i = true) (kk : Go G μ d rc rs (pc + 3) (ls.set i (some (.int (x + Int32.ofInt n)))) st S I R L Q) : Go G μ d rc rs pc ls st S I R L Q := by
  intro l p e RM s m args below meth c H locs cells slots mc ms lsA Z
  obtain ⟨j, hj⟩ := List.getElem?_of_mem (g_pr_mem (G := G) (q := (i, Value.int x)) |>.mpr ⟨.int x, hx, rfl⟩)
  exact lv_iinc Z.1.1 Z.1.2.1 hd (g_L_has Z.2.2.2.2.2) hj rfl hn rfl (fun ls2 h2 => (kk l p e RM s m args below meth c H locs cells slots mc ms ls2 ⟨Z.1, Z.2.1, Z.2.2.1, Z.2.2.2.1, Z.2.2.2.2.1, g_L_st1 (v := .int (x + Int32.ofInt n)) hok h2⟩))
theorem go_iret {v : Int32} (hd : decode μ.2.1 pc = .ok (.ireturn, 1)) (hr : μ.2.2.2 = some .int) (hc : rc = 0) (hq : Q (some (.int v)) S I R L) : Go G μ d rc rs pc ls [.int v] S I R L Q := by
  intro l p e RM s m args below meth c H locs cells slots mc ms lsA Z
  subst hc
  obtain ⟨hC, hR, ⟨h1, h2, h3⟩, hP, hS, hL⟩ := Z
  subst h1
  have hlocks := hC.2.2.2.2.1
  refine W.widen (k := cells + 0) (n := ms) (Nat.le_refl _) (by omega) ?_
  exact W.iret hC.1 hC.2.1 (hC.2.2.2.1.trans hr) (fun t ht hW => ⟨some (.int v), S, I, R, L, rfl, hq, by rw [ht]; exact hP, by rw [ht]; exact ⟨hS.1, hS.2.1, fun _ h => by cases h⟩, h3⟩) hS.2.2 hd
theorem go_lret {v : Int64} (hd : decode μ.2.1 pc = .ok (.lreturn, 1)) (hr : μ.2.2.2 = some .long) (hc : rc = 0) (hq : Q (some (.long v)) S I R L) : Go G μ d rc rs pc ls [.long v] S I R L Q := by
  intro l p e RM s m args below meth c H locs cells slots mc ms lsA Z
  subst hc
  obtain ⟨hC, hR, ⟨h1, h2, h3⟩, hP, hS, hL⟩ := Z
  subst h1
  have hlocks := hC.2.2.2.2.1
  refine W.widen (k := cells + 0) (n := ms) (Nat.le_refl _) (by omega) ?_
  exact W.lret hC.1 hC.2.1 (hC.2.2.2.1.trans hr) (fun t ht hW => ⟨some (.long v), S, I, R, L, rfl, hq, by rw [ht]; exact hP, by rw [ht]; exact ⟨hS.1, hS.2.1, fun _ h => by cases h⟩, h3⟩) hS.2.2 hd
theorem go_zret {v : Int32} (hd : decode μ.2.1 pc = .ok (.ireturn, 1)) {ty : FieldType} (hr : μ.2.2.2 = some ty) (hn : narrow ty (.int v) = .int v) (hc : rc = 0) (hq : Q (some (.int v)) S I R L) : Go G μ d rc rs pc ls [.int v] S I R L Q := by
  intro l p e RM s m args below meth c H locs cells slots mc ms lsA Z
  subst hc
  obtain ⟨hC, hR, ⟨h1, h2, h3⟩, hP, hS, hL⟩ := Z
  subst h1
  have hlocks := hC.2.2.2.2.1
  refine W.widen (k := cells + 0) (n := ms) (Nat.le_refl _) (by omega) ?_
  exact W.zret hC.1 hC.2.1 (hC.2.2.2.1.trans hr) hn (fun t ht hW => ⟨some (.int v), S, I, R, L, rfl, hq, by rw [ht]; exact hP, by rw [ht]; exact ⟨hS.1, hS.2.1, fun _ h => by cases h⟩, h3⟩) hS.2.2 hd
theorem go_vret (hd : decode μ.2.1 pc = .ok (.return_, 1)) (hr : μ.2.2.2 = none) (hc : rc = 0) (hq : Q none S I R L) : Go G μ d rc rs pc ls [] S I R L Q := by
  intro l p e RM s m args below meth c H locs cells slots mc ms lsA Z
  subst hc
  obtain ⟨hC, hR, ⟨h1, h2, h3⟩, hP, hS, hL⟩ := Z
  subst h1
  have hlocks := hC.2.2.2.2.1
  refine W.widen (k := cells + 0) (n := ms) (Nat.le_refl _) (by omega) ?_
  exact W.vret hC.1 hC.2.1 (hC.2.2.2.1.trans hr) (fun t ht hW => ⟨none, S, I, R, L, rfl, hq, by rw [ht]; exact hP, by rw [ht]; exact ⟨hS.1, hS.2.1, fun _ h => by cases h⟩, h3⟩) hS.2.2 hd
theorem go_aret {v : Value} (hv : v = .null ∨ ∃ a, v = .ref a) (hd : decode μ.2.1 pc = .ok (.areturn, 1)) {n : String} (hr : μ.2.2.2 = some (.object n)) (hc : rc = 0) (hq : Q (some v) S I R L) : Go G μ d rc rs pc ls [v] S I R L Q := by
  intro l p e RM s m args below meth c H locs cells slots mc ms lsA Z
  subst hc
  obtain ⟨hC, hR, ⟨h1, h2, h3⟩, hP, hS, hL⟩ := Z
  subst h1
  have hlocks := hC.2.2.2.2.1
  refine W.widen (k := cells + 0) (n := ms) (Nat.le_refl _) (by omega) ?_
  exact W.aret (v := cv G v) hC.1 hC.2.1 (hC.2.2.2.1.trans hr) (Or.inl ⟨n, rfl⟩) (by rcases hv with rfl | ⟨a, rfl⟩; exact Or.inl rfl; exact Or.inr ⟨_, rfl⟩) (fun t ht hW => ⟨some v, S, I, R, L, rfl, hq, by rw [ht]; exact hP, by rw [ht]; exact ⟨hS.1, hS.2.1, fun _ h => by cases h⟩, h3⟩) hS.2.2 hd
end GR
end
section
/-! the GO rows of instructions that touch cells -/
def up (I : gI) (c i : Nat) (x : Int32) : gI := fun a j => if a = c ∧ j = i then x else I a j
def upR (R : gR) (c i : Nat) (x : Option Nat) : gR := fun a j => if a = c ∧ j = i then x else R a j
def upL (L : gL) (c i : Nat) (x : Int64) : gL := fun a j => if a = c ∧ j = i then x else L a j
theorem up_eq (I : gI) (c i : Nat) (x : Int32) : up I c i x c i = x := by simp [up]
theorem up_ne {I : gI} {c i a j : Nat} {x : Int32} (h : ¬ (a = c ∧ j = i)) : up I c i x a j = I a j := by simp [up, h]
theorem up_nc {I : gI} {c i a j : Nat} {x : Int32} (h : a ≠ c) : up I c i x a j = I a j := by simp [up, h]
theorem up_ni {I : gI} {c i a j : Nat} {x : Int32} (h : j ≠ i) : up I c i x a j = I a j := by simp [up, h]
theorem up_row (I : gI) (c i : Nat) (x : Int32) : up I c i x c = upd (I c) i x := by funext j; simp [up, upd]
theorem up_off {I : gI} {c i : Nat} {x : Int32} (a : Nat) (h : a ≠ c) : up I c i x a = I a := by funext j; simp [up, h]
theorem upR_eq (I : gR) (c i : Nat) (x : Option Nat) : upR I c i x c i = x := by simp [upR]
theorem upR_nc {I : gR} {c i a j : Nat} {x : Option Nat} (h : a ≠ c) : upR I c i x a j = I a j := by simp [upR, h]
theorem upR_ni {I : gR} {c i a j : Nat} {x : Option Nat} (h : j ≠ i) : upR I c i x a j = I a j := by simp [upR, h]
theorem upR_off {I : gR} {c i : Nat} {x : Option Nat} (a : Nat) (h : a ≠ c) : upR I c i x a = I a := by funext j; simp [upR, h]
theorem upL_off {I : gL} {c i : Nat} {x : Int64} (a : Nat) (h : a ≠ c) : upL I c i x a = I a := by funext j; simp [upL, h]
theorem upL_row (I : gL) (c i : Nat) (x : Int64) : upL I c i x c = vp_updL (I c) i x := by funext j; simp [upL, vp_updL]
def g_F (own : String) (idx ci k : Nat) (ty : FieldType) (fin : Bool) : Prop := ∃ r : vw_C, g_cl[ci]? = some r ∧ k < r.2.2 ∧ Cond.fieldLink own idx (r.2.1 k).1 (r.2.1 k).2.1 (r.2.1 k).2.2.1 ∈ g_t ∧ g_ty ci k = ty ∧ (r.2.1 k).2.2.2 = fin
theorem g_fs_at {G : gG} {I : gI} {R : gR} {a ci k : Nat} (hk : k < g_nf ci) : ((List.range (g_nf ci)).map (g_f G I R a ci))[k]? = some (g_f G I R a ci k) := by
  rw [List.getElem?_map, List.getElem?_range hk]; rfl
theorem g_fs_set {G : gG} {I I' : gI} {R R' : gR} {a ci k : Nat} {v : Value} (hv : g_f G I' R' a ci k = v) (ho : ∀ j, j ≠ k → g_f G I' R' a ci j = g_f G I R a ci j) : ((List.range (g_nf ci)).map (g_f G I R a ci)).set k v = (List.range (g_nf ci)).map (g_f G I' R' a ci) := by
  apply List.ext_getElem?
  intro j
  by_cases hj : j = k
  · subst hj
    by_cases hl : j < g_nf ci
    · rw [List.getElem?_set_self (by simpa using hl), g_fs_at hl, hv]
    · rw [List.getElem?_eq_none (by simpa using hl), List.getElem?_eq_none (by simpa using hl)]
  · rw [List.getElem?_set_ne (Ne.symm hj)]
    by_cases hl : j < g_nf ci
    · rw [g_fs_at hl, g_fs_at hl, ho j hj]
    · rw [List.getElem?_eq_none (by simpa using hl), List.getElem?_eq_none (by simpa using hl)]
section GC
variable {G : gG} {μ : gm} {d rc rs pc : Nat} {ls : List (Option Value)} {st : List Value} {S : gS} {I : gI} {R : gR} {L : gL} {Q : gQ}
/-- how large the heap is -/
theorem g_size {p : Program} {l : Launch} {e : Env} {RM : Room} {s : State} {m : MethodId} {args : Array Value} {below : List Frame} {meth : Method} {c : Code} {H : Heap} {locs : List Loc} {cells slots : Nat} {QQ : State → Prop} {g : JFrame} {G : gG} (h3 : s.heap.size + cells = G.1.size + S.length) (hP : va_P G.2.1 g_cl (g_W G S I R L) H) (hS : va_S (g_A G) G.1 H locs) (k : H.size = G.1.size + S.length → W p l e RM s m args below meth c H locs cells slots QQ g) : W p l e RM s m args below meth c H locs cells slots QQ g := by
  intro T hT X
  refine k ?_ T hT X
  have h1 := X.heapSize
  rw [hT] at h1
  rcases Nat.eq_zero_or_pos S.length with h0 | h0
  · have := hS.1
    omega
  · obtain ⟨x, hx⟩ : ∃ x, S[S.length - 1]? = some x := ⟨_, List.getElem?_eq_getElem (by omega)⟩
    have h2 := (hP _ _ (g_W_at hx)).lt
    simp only at h2
    omega
theorem go_getI {a ci k idx : Nat} {ty : FieldType} {fin : Bool} (hd : decode μ.2.1 pc = .ok (.getfield idx, 3)) (hf : g_F μ.1.cls idx ci k ty fin) (hty : g_rt ty = false) (hs : S[a]? = some (0, ci)) (kk : Go G μ d rc rs (pc + 3) ls (.int (I a k) :: st) S I R L Q) : Go G μ d rc rs pc ls (.ref a :: st) S I R L Q := by
  intro l p e RM s m args below meth c H locs cells slots mc ms lsA Z
  obtain ⟨r, hr, hk, hw, hg, -⟩ := hf
  obtain ⟨c1, -, -, c4⟩ := g_cls hr
  have hv : g_f G I R a ci k = .int (I a k) := by simp [g_f, hg, hty]
  exact va_get Z.1.1 Z.1.2.1 Z.1.2.2.2.2.2.2.1 (g_uws c1) Z.1.2.2.2.2.2.1 Z.1.2.2.2.2.2.2.2.2.1.1 Z.2.2.2.1 a (g_W_at hs) hr k hk (Z.1.2.2.2.2.2.2.1 _ hw) (fun _ h => h) ((g_fs_at (c4 ▸ hk)).trans (congrArg some hv)) hd (kk l p e RM s m args below meth c H locs cells slots mc ms lsA Z)
theorem go_getR {a ci k idx v : Nat} {ty : FieldType} {fin : Bool} (hd : decode μ.2.1 pc = .ok (.getfield idx, 3)) (hf : g_F μ.1.cls idx ci k ty fin) (hty : g_rt ty = true) (hs : S[a]? = some (0, ci)) (hr2 : R a k = some v) (kk : Go G μ d rc rs (pc + 3) ls (.ref v :: st) S I R L Q) : Go G μ d rc rs pc ls (.ref a :: st) S I R L Q := by
  intro l p e RM s m args below meth c H locs cells slots mc ms lsA Z
  obtain ⟨r, hr, hk, hw, hg, -⟩ := hf
  obtain ⟨c1, -, -, c4⟩ := g_cls hr
  have hv : g_f G I R a ci k = .ref (G.1.size + v) := by simp [g_f, hg, hty, hr2, va_rf]
  exact va_get Z.1.1 Z.1.2.1 Z.1.2.2.2.2.2.2.1 (g_uws c1) Z.1.2.2.2.2.2.1 Z.1.2.2.2.2.2.2.2.2.1.1 Z.2.2.2.1 a (g_W_at hs) hr k hk (Z.1.2.2.2.2.2.2.1 _ hw) (fun _ h => h) ((g_fs_at (c4 ▸ hk)).trans (congrArg some hv)) hd (kk l p e RM s m args below meth c H locs cells slots mc ms lsA Z)
theorem go_putI {a ci k idx : Nat} {x : Int32} {ty : FieldType} (hd : decode μ.2.1 pc = .ok (.putfield idx, 3)) (hf : g_F μ.1.cls idx ci k ty false) (hty : g_rt ty = false) (hn : narrow ty (.int x) = .int x) (hfit : fits ty (.int x) = true) (hs : S[a]? = some (0, ci)) (kk : Go G μ d rc rs (pc + 3) ls st S (up I a k x) R L Q) : Go G μ d rc rs pc ls (.int x :: .ref a :: st) S I R L Q := by
  intro l p e RM s m args below meth c H locs cells slots mc ms lsA Z
  obtain ⟨r, hr, hk, hw, hg, hfin⟩ := hf
  obtain ⟨c1, c2, c3, c4⟩ := g_cls hr
  refine va_put (H0 := G.1) (A := g_A G) Z.1.1 Z.1.2.1 Z.1.2.2.2.2.2.2.1 (g_uws c1) (g_ty ci) c3 c2 Z.1.2.2.2.2.2.1 Z.1.2.2.2.2.2.2.2.2.1.1 Z.2.2.2.1 g_D Z.2.2.2.2.1 a (g_W_at hs) hr k hk (Z.1.2.2.2.2.2.2.1 _ hw) (fun _ h => h) hfin (ty := ty) (by rw [← hg]; exact c3 k hk) hn hfit (by simpa using c4 ▸ hk) hd (fun H1 locs1 hP1 hD1 hS1 => ?_)
  have e1 : ((List.range (g_nf ci)).map (g_f G I R a ci)).set k (.int x) = (List.range (g_nf ci)).map (g_f G (up I a k x) R a ci) := g_fs_set (by simp [g_f, hg, hty, up_eq]) (fun j hj => by simp [g_f, up_ni hj])
  have hP1 : va_P G.2.1 g_cl ((g_W G S I R L).set a (G.1.size + a, .inr (ci, ((List.range (g_nf ci)).map (g_f G I R a ci)).set k (.int x)))) H1 := hP1
  rw [e1] at hP1
  have e2 : (g_W G S I R L).set a (G.1.size + a, .inr (ci, (List.range (g_nf ci)).map (g_f G (up I a k x) R a ci))) = g_W G S (up I a k x) R L := g_W_set (I := I) (I' := up I a k x) (R := R) (R' := R) (L := L) (L' := L) hs (fun z hz => up_off z hz) (fun _ _ => rfl) (fun _ _ => rfl)
  rw [e2] at hP1
  exact kk l p e RM s m args below meth c H1 locs1 cells slots mc ms lsA ⟨Z.1, Z.2.1, Z.2.2.1, hP1, hS1, Z.2.2.2.2.2⟩
theorem g_R_set {G : gG} {a ci k v : Nat} {ty : FieldType} (hs : S[a]? = some (0, ci)) (hg : g_ty ci k = ty) (hty : g_rt ty = true) : (g_W G S I R L).set a (G.1.size + a, .inr (ci, ((List.range (g_nf ci)).map (g_f G I R a ci)).set k (.ref (G.1.size + v)))) = g_W G S I (upR R a k (some v)) L := by
  have e1 : ((List.range (g_nf ci)).map (g_f G I R a ci)).set k (.ref (G.1.size + v)) = (List.range (g_nf ci)).map (g_f G I (upR R a k (some v)) a ci) := g_fs_set (by simp [g_f, hg, hty, upR_eq, va_rf]) (fun j hj => by simp [g_f, upR_ni hj])
  rw [e1]
  exact g_W_set (I := I) (I' := I) (R := R) (R' := upR R a k (some v)) (L := L) (L' := L) hs (fun _ _ => rfl) (fun z hz => upR_off z hz) (fun _ _ => rfl)
theorem go_putR {a ci k idx v : Nat} {ty : FieldType} (hd : decode μ.2.1 pc = .ok (.putfield idx, 3)) (hf : g_F μ.1.cls idx ci k ty false) (hty : g_rt ty = true) (hn : ∀ z, narrow ty (.ref z) = .ref z ∧ fits ty (.ref z) = true) (hs : S[a]? = some (0, ci)) (kk : Go G μ d rc rs (pc + 3) ls st S I (upR R a k (some v)) L Q) : Go G μ d rc rs pc ls (.ref v :: .ref a :: st) S I R L Q := by
  intro l p e RM s m args below meth c H locs cells slots mc ms lsA Z
  obtain ⟨r, hr, hk, hw, hg, hfin⟩ := hf
  obtain ⟨c1, c2, c3, c4⟩ := g_cls hr
  refine va_put (H0 := G.1) (A := g_A G) Z.1.1 Z.1.2.1 Z.1.2.2.2.2.2.2.1 (g_uws c1) (g_ty ci) c3 c2 Z.1.2.2.2.2.2.1 Z.1.2.2.2.2.2.2.2.2.1.1 Z.2.2.2.1 g_D Z.2.2.2.2.1 a (g_W_at hs) hr k hk (Z.1.2.2.2.2.2.2.1 _ hw) (fun _ h => h) hfin (ty := ty) (by rw [← hg]; exact c3 k hk) (hn _).1 (hn _).2 (by simpa using c4 ▸ hk) hd (fun H1 locs1 hP1 hD1 hS1 => ?_)
  have hP1 : va_P G.2.1 g_cl ((g_W G S I R L).set a (G.1.size + a, .inr (ci, ((List.range (g_nf ci)).map (g_f G I R a ci)).set k (.ref (G.1.size + v))))) H1 := hP1
  rw [g_R_set hs hg hty] at hP1
  exact kk l p e RM s m args below meth c H1 locs1 cells slots mc ms lsA ⟨Z.1, Z.2.1, Z.2.2.1, hP1, hS1, Z.2.2.2.2.2⟩
/-- a final field of an object that is being made -/
theorem go_putF {a ci k idx v : Nat} {ty : FieldType} (hd : decode μ.2.1 pc = .ok (.putfield idx, 3)) (hf : g_F μ.1.cls idx ci k ty true) (hty : g_rt ty = true) (hn : ∀ z, narrow ty (.ref z) = .ref z ∧ fits ty (.ref z) = true) (hi : μ.1.name = "<init>") (ho : ∀ r, g_cl[ci]? = some r → (r.2.1 k).1 = μ.1.cls) (hs : S[a]? = some (0, ci)) (kk : Go G μ d rc rs (pc + 3) ls st S I (upR R a k (some v)) L Q) : Go G μ d rc rs pc ls (.ref v :: .ref a :: st) S I R L Q := by
  intro l p e RM s m args below meth c H locs cells slots mc ms lsA Z
  obtain ⟨r, hr, hk, hw, hg, hfin⟩ := hf
  obtain ⟨c1, c2, c3, c4⟩ := g_cls hr
  refine va_putF (H0 := G.1) (A := g_A G) Z.1.1 Z.1.2.1 Z.1.2.2.2.2.2.2.1 (g_uws c1) (g_ty ci) c3 c2 Z.1.2.2.2.2.2.1 Z.1.2.2.2.2.2.2.2.2.1.1 Z.2.2.2.1 g_D Z.2.2.2.2.1 a (g_W_at hs) hr k hk (Z.1.2.2.2.2.2.2.1 _ hw) (fun _ h => h) hfin (Z.1.2.2.2.2.2.2.2.1.trans hi) (ho r hr) (ty := ty) (by rw [← hg]; exact c3 k hk) (hn _).1 (hn _).2 (by simpa using c4 ▸ hk) hd (fun H1 locs1 hP1 hD1 hS1 => ?_)
  have hP1 : va_P G.2.1 g_cl ((g_W G S I R L).set a (G.1.size + a, .inr (ci, ((List.range (g_nf ci)).map (g_f G I R a ci)).set k (.ref (G.1.size + v))))) H1 := hP1
  rw [g_R_set hs hg hty] at hP1
  exact kk l p e RM s m args below meth c H1 locs1 cells slots mc ms lsA ⟨Z.1, Z.2.1, Z.2.2.1, hP1, hS1, Z.2.2.2.2.2⟩
/-! arrays -/
theorem go_iald {a n : Nat} {i : Int32} (hd : decode μ.2.1 pc = .ok (.iaload, 1)) (hs : S[a]? = some (1, n)) (hin : vp_in i n) (kk : Go G μ d rc rs (pc + 1) ls (.int (I a i.toNatClampNeg) :: st) S I R L Q) : Go G μ d rc rs pc ls (.int i :: .ref a :: st) S I R L Q := by
  intro l p e RM s m args below meth c H locs cells slots mc ms lsA Z
  exact va_iald Z.1.1 Z.1.2.1 Z.1.2.2.2.2.2.2.2.2.1.1 Z.2.2.2.1 a 0 (g_W_at hs) rfl hin hd (kk l p e RM s m args below meth c H locs cells slots mc ms lsA Z)
theorem go_bald {a n : Nat} {i : Int32} (hd : decode μ.2.1 pc = .ok (.baload, 1)) (hs : S[a]? = some (2, n)) (hin : vp_in i n) (kk : Go G μ d rc rs (pc + 1) ls (.int (I a i.toNatClampNeg) :: st) S I R L Q) : Go G μ d rc rs pc ls (.int i :: .ref a :: st) S I R L Q := by
  intro l p e RM s m args below meth c H locs cells slots mc ms lsA Z
  exact va_bald Z.1.1 Z.1.2.1 Z.1.2.2.2.2.2.2.2.2.1.1 Z.2.2.2.1 a 1 (g_W_at hs) rfl hin hd (kk l p e RM s m args below meth c H locs cells slots mc ms lsA Z)
theorem go_lald {a n : Nat} {i : Int32} (hd : decode μ.2.1 pc = .ok (.laload, 1)) (hs : S[a]? = some (3, n)) (hin : vp_in i n) (kk : Go G μ d rc rs (pc + 1) ls (.long (L a i.toNatClampNeg) :: st) S I R L Q) : Go G μ d rc rs pc ls (.int i :: .ref a :: st) S I R L Q := by
  intro l p e RM s m args below meth c H locs cells slots mc ms lsA Z
  exact va_lald Z.1.1 Z.1.2.1 Z.1.2.2.2.2.2.2.2.2.1.1 Z.2.2.2.1 a 2 (g_W_at hs) rfl hin hd (kk l p e RM s m args below meth c H locs cells slots mc ms lsA Z)
theorem go_aald4 {a n v : Nat} {i : Int32} (hd : decode μ.2.1 pc = .ok (.aaload, 1)) (hs : S[a]? = some (4, n)) (hin : vp_in i n) (hv : R a i.toNatClampNeg = some v) (kk : Go G μ d rc rs (pc + 1) ls (.ref v :: st) S I R L Q) : Go G μ d rc rs pc ls (.int i :: .ref a :: st) S I R L Q := by
  intro l p e RM s m args below meth c H locs cells slots mc ms lsA Z
  have h := kk l p e RM s m args below meth c H locs cells slots mc ms lsA Z
  refine va_aldq Z.1.1 Z.1.2.1 Z.1.2.2.2.2.2.2.2.2.1.1 Z.2.2.2.1 a 3 (g_W_at hs) rfl hin hd ?_
  simp only [hv]
  exact h
theorem go_aald5 {a n v : Nat} {i : Int32} (hd : decode μ.2.1 pc = .ok (.aaload, 1)) (hs : S[a]? = some (5, n)) (hin : vp_in i n) (hv : R a i.toNatClampNeg = some v) (kk : Go G μ d rc rs (pc + 1) ls (.ref v :: st) S I R L Q) : Go G μ d rc rs pc ls (.int i :: .ref a :: st) S I R L Q := by
  intro l p e RM s m args below meth c H locs cells slots mc ms lsA Z
  have h := kk l p e RM s m args below meth c H locs cells slots mc ms lsA Z
  refine va_aldq Z.1.1 Z.1.2.1 Z.1.2.2.2.2.2.2.2.2.1.1 Z.2.2.2.1 a 4 (g_W_at hs) rfl hin hd ?_
  simp only [hv]
  exact h
theorem go_iast {a n : Nat} {i x : Int32} (hd : decode μ.2.1 pc = .ok (.iastore, 1)) (hs : S[a]? = some (1, n)) (hin : vp_in i n) (kk : Go G μ d rc rs (pc + 1) ls st S (up I a i.toNatClampNeg x) R L Q) : Go G μ d rc rs pc ls (.int x :: .int i :: .ref a :: st) S I R L Q := by
  intro l p e RM s m args below meth c H locs cells slots mc ms lsA Z
  refine va_iast (H0 := G.1) (A := g_A G) Z.1.1 Z.1.2.1 Z.1.2.2.2.2.2.2.2.2.1.1 Z.2.2.2.1 g_D Z.2.2.2.2.1 a 0 (g_W_at hs) rfl hin hd (fun H1 locs1 hP1 hD1 hS1 => ?_)
  have hP1 : va_P G.2.1 g_cl ((g_W G S I R L).set a (G.1.size + a, .inl (G.2.2.1 0, n, .inl (upd (I a) i.toNatClampNeg x)))) H1 := hP1
  rw [← up_row] at hP1
  have e2 : (g_W G S I R L).set a (G.1.size + a, .inl (G.2.2.1 0, n, .inl (up I a i.toNatClampNeg x a))) = g_W G S (up I a i.toNatClampNeg x) R L := g_W_set (I := I) (I' := up I a i.toNatClampNeg x) (R := R) (R' := R) (L := L) (L' := L) hs (fun z hz => up_off z hz) (fun _ _ => rfl) (fun _ _ => rfl)
  rw [e2] at hP1
  exact kk l p e RM s m args below meth c H1 locs1 cells slots mc ms lsA ⟨Z.1, Z.2.1, Z.2.2.1, hP1, hS1, Z.2.2.2.2.2⟩
theorem go_bast {a n : Nat} {i x : Int32} (hd : decode μ.2.1 pc = .ok (.bastore, 1)) (hs : S[a]? = some (2, n)) (hin : vp_in i n) (kk : Go G μ d rc rs (pc + 1) ls st S (up I a i.toNatClampNeg x.toInt8.toInt32) R L Q) : Go G μ d rc rs pc ls (.int x :: .int i :: .ref a :: st) S I R L Q := by
  intro l p e RM s m args below meth c H locs cells slots mc ms lsA Z
  refine va_bast (H0 := G.1) (A := g_A G) Z.1.1 Z.1.2.1 Z.1.2.2.2.2.2.2.2.2.1.1 Z.2.2.2.1 g_D Z.2.2.2.2.1 a 1 (g_W_at hs) rfl hin hd (fun H1 locs1 hP1 hD1 hS1 => ?_)
  have hP1 : va_P G.2.1 g_cl ((g_W G S I R L).set a (G.1.size + a, .inl (G.2.2.1 1, n, .inl (upd (I a) i.toNatClampNeg (vp_nar .byte x))))) H1 := hP1
  rw [vp_nar_byte, ← up_row] at hP1
  have e2 : (g_W G S I R L).set a (G.1.size + a, .inl (G.2.2.1 1, n, .inl (up I a i.toNatClampNeg x.toInt8.toInt32 a))) = g_W G S (up I a i.toNatClampNeg x.toInt8.toInt32) R L := g_W_set (I := I) (I' := up I a i.toNatClampNeg x.toInt8.toInt32) (R := R) (R' := R) (L := L) (L' := L) hs (fun z hz => up_off z hz) (fun _ _ => rfl) (fun _ _ => rfl)
  rw [e2] at hP1
  exact kk l p e RM s m args below meth c H1 locs1 cells slots mc ms lsA ⟨Z.1, Z.2.1, Z.2.2.1, hP1, hS1, Z.2.2.2.2.2⟩
theorem go_last {a n : Nat} {i : Int32} {x : Int64} (hd : decode μ.2.1 pc = .ok (.lastore, 1)) (hs : S[a]? = some (3, n)) (hin : vp_in i n) (kk : Go G μ d rc rs (pc + 1) ls st S I R (upL L a i.toNatClampNeg x) Q) : Go G μ d rc rs pc ls (.long x :: .int i :: .ref a :: st) S I R L Q := by
  intro l p e RM s m args below meth c H locs cells slots mc ms lsA Z
  refine va_last (H0 := G.1) (A := g_A G) Z.1.1 Z.1.2.1 Z.1.2.2.2.2.2.2.2.2.1.1 Z.2.2.2.1 g_D Z.2.2.2.2.1 a 2 (g_W_at hs) rfl hin hd (fun H1 locs1 hP1 hD1 hS1 => ?_)
  have hP1 : va_P G.2.1 g_cl ((g_W G S I R L).set a (G.1.size + a, .inl (G.2.2.1 2, n, .inr (.inl (vp_updL (L a) i.toNatClampNeg x))))) H1 := hP1
  rw [← upL_row] at hP1
  have e2 : (g_W G S I R L).set a (G.1.size + a, .inl (G.2.2.1 2, n, .inr (.inl (upL L a i.toNatClampNeg x a)))) = g_W G S I R (upL L a i.toNatClampNeg x) := g_W_set (I := I) (I' := I) (R := R) (R' := R) (L := L) (L' := upL L a i.toNatClampNeg x) hs (fun _ _ => rfl) (fun _ _ => rfl) (fun z hz => upL_off z hz)
  rw [e2] at hP1
  exact kk l p e RM s m args below meth c H1 locs1 cells slots mc ms lsA ⟨Z.1, Z.2.1, Z.2.2.1, hP1, hS1, Z.2.2.2.2.2⟩
theorem go_aast {κ t a n v ci : Nat} {i : Int32} {C : String} (hd : decode μ.2.1 pc = .ok (.aastore, 1)) (hs : S[a]? = some (κ + 4, n)) (ht : ∀ G : gG, (g_tys G)[κ + 3]? = some (G.2.2.1 (κ + 3), .object C)) (hv : S[v]? = some (0, ci)) (hC : ∃ r, g_cl[ci]? = some r ∧ r.1 = C) (hin : vp_in i n) (kk : Go G μ d rc rs (pc + 1) ls st S I (upR R a i.toNatClampNeg (some v)) L Q) : Go G μ d rc rs pc ls (.ref v :: .int i :: .ref a :: st) S I R L Q := by
  intro l p e RM s m args below meth c H locs cells slots mc ms lsA Z
  obtain ⟨r, hr, rfl⟩ := hC
  refine va_astq (H0 := G.1) (A := g_A G) Z.1.1 Z.1.2.1 Z.1.2.2.2.2.2.2.2.2.1.1 Z.2.2.2.1 g_D Z.2.2.2.2.1 a (κ + 3) v ci (r := r) (g_W_at hs) (ht G) (g_W_at hv) hr hin hd (fun H1 locs1 hP1 hD1 hS1 => ?_)
  have e1 : va_up (fun j => (R a j).map (G.1.size + ·)) i.toNatClampNeg (some (G.1.size + v)) = fun j => (upR R a i.toNatClampNeg (some v) a j).map (G.1.size + ·) := by
    funext j
    by_cases hj : j = i.toNatClampNeg
    · subst hj
      simp [va_up, upR_eq]
    · simp [va_up, hj, upR_ni hj]
  have hP1 : va_P G.2.1 g_cl ((g_W G S I R L).set a (G.1.size + a, .inl (G.2.2.1 (κ + 3), n, .inr (.inr (.inr (.inr (va_up (fun j => (R a j).map (G.1.size + ·)) i.toNatClampNeg (some (G.1.size + v))))))))) H1 := hP1
  rw [e1] at hP1
  have e2 : (g_W G S I R L).set a (G.1.size + a, .inl (G.2.2.1 (κ + 3), n, .inr (.inr (.inr (.inr (fun j => (upR R a i.toNatClampNeg (some v) a j).map (G.1.size + ·))))))) = g_W G S I (upR R a i.toNatClampNeg (some v)) L := g_W_set (x := (κ + 4, n)) (I := I) (I' := I) (R := R) (R' := upR R a i.toNatClampNeg (some v)) (L := L) (L' := L) hs (fun _ _ => rfl) (fun z hz => upR_off z hz) (fun _ _ => rfl)
  rw [e2] at hP1
  exact kk l p e RM s m args below meth c H1 locs1 cells slots mc ms lsA ⟨Z.1, Z.2.1, Z.2.2.1, hP1, hS1, Z.2.2.2.2.2⟩
theorem go_alen {a n : Nat} (κ : Nat) {v : Int32} (hd : decode μ.2.1 pc = .ok (.arraylength, 1)) (hs : S[a]? = some (κ + 1, n)) (hκ : κ < 5) (hv : Int32.ofNat n = v) (kk : Go G μ d rc rs (pc + 1) ls (.int v :: st) S I R L Q) : Go G μ d rc rs pc ls (.ref a :: st) S I R L Q := by
  intro l p e RM s m args below meth c H locs cells slots mc ms lsA Z
  have h := kk l p e RM s m args below meth c H locs cells slots mc ms lsA Z
  match κ, hs, hκ with
  | 0, hs, _ => exact va_alen Z.1.1 Z.1.2.1 Z.1.2.2.2.2.2.2.2.2.1.1 Z.2.2.2.1 a 0 (g_W_at hs) rfl hv hd h
  | 1, hs, _ => exact va_alen Z.1.1 Z.1.2.1 Z.1.2.2.2.2.2.2.2.2.1.1 Z.2.2.2.1 a 1 (g_W_at hs) rfl hv hd h
  | 2, hs, _ => exact va_alen Z.1.1 Z.1.2.1 Z.1.2.2.2.2.2.2.2.2.1.1 Z.2.2.2.1 a 2 (g_W_at hs) rfl hv hd h
  | 3, hs, _ => exact va_alen Z.1.1 Z.1.2.1 Z.1.2.2.2.2.2.2.2.2.1.1 Z.2.2.2.1 a 3 (g_W_at hs) rfl hv hd h
  | 4, hs, _ => exact va_alen Z.1.1 Z.1.2.1 Z.1.2.2.2.2.2.2.2.2.1.1 Z.2.2.2.1 a 4 (g_W_at hs) rfl hv hd h
  | k + 5, hs, h5 => exact absurd h5 (by omega)
end GC
end
section
/-! the GO rows that make cells, call methods, and read what lies outside -/
section GN
variable {G : gG} {μ : gm} {d rc rs pc : Nat} {ls : List (Option Value)} {st : List Value} {S : gS} {I : gI} {R : gR} {L : gL} {Q : gQ}
theorem g_W_app {G : gG} (x : Nat × Nat) : g_W G (S ++ [x]) I R L = g_W G S I R L ++ [(G.1.size + S.length, g_e G I R L S.length x)] := by
  simp [g_W, List.mapIdx_concat]
theorem g_P_app {G : gG} {H H1 : Heap} {x : Nat × Nat} (hP : va_P G.2.1 g_cl (g_W G S I R L) H) (hz : H.size = G.1.size + S.length) (ho : ∀ q, q < H.size → H1[q]? = H[q]?) (hn : va_at G.2.1 g_cl (G.1.size + S.length, g_e G I R L S.length x) H1) : va_P G.2.1 g_cl (g_W G (S ++ [x]) I R L) H1 := by
  rw [g_W_app]
  refine va_P.app (hP.kept (fun k q h => ho q.1 ((hP k q h).lt))) (fun k q h => ?_)
  have hk : k < 1 := (List.getElem?_eq_some_iff.mp h).1
  rw [show k = 0 by omega] at h
  cases h
  exact hn
theorem g_S_app {G : gG} {H H1 : Heap} {locs : List Loc} (hS : va_S (g_A G) G.1 H locs) (z : H.size ≤ H1.size) (ho : ∀ q, q < H.size → H1[q]? = H[q]?) : va_S (g_A G) G.1 H1 locs :=
  ⟨Nat.le_trans hS.1 z, fun q h1 h2 => (ho q (Nat.lt_of_lt_of_le h1 hS.1)).trans (hS.2.1 q h1 h2), hS.2.2⟩
theorem go_new {ci idx N : Nat} {C : String} (hd : decode μ.2.1 pc = .ok (.new idx, 3)) (hc : ∃ T, g_cl[ci]? = some (C, T, N)) (hw1 : Cond.classLink μ.1.cls idx C ∈ g_t) (hw2 : Cond.instantiable C N ∈ g_t) (hw3 : Cond.initialized C ∈ g_t) (hI : ∀ j, I S.length j = 0) (hR : ∀ j, R S.length j = none)
    (hdef : ∀ j, j < N → defaultValue (g_ty ci j) = if g_rt (g_ty ci j) = true then .null else .int 0)
    (kk : Go G μ d rc rs (pc + 3) ls (.ref S.length :: st) (S ++ [(0, ci)]) I R L Q) : Go G μ d (rc + 1) (rs + N) pc ls st S I R L Q := by
  intro l p e RM s m args below meth c H locs cells slots mc ms lsA Z
  obtain ⟨hC, hRM, ⟨h1, h2, h3⟩, hP, hS, hL⟩ := Z
  obtain ⟨T, hr⟩ := hc
  obtain ⟨c1, c2, c3, c4⟩ := g_cls hr
  have hKn := hC.2.2.2.2.2.2.2.2.1.1.1 ci _ hr
  refine g_size h3 hP hS fun hz => ?_
  refine W.newcK hC.1 hC.2.1 hC.2.2.2.2.2.1 (hC.2.2.2.2.2.2.1 _ hw1) (hC.2.2.2.2.2.2.1 _ hw2) (hC.2.2.2.2.2.2.1 _ hw3) rfl hd (by omega) (by omega) hKn.2.1 hz fun H1 kC hkC e1 z1 o1 => ?_
  have hO := u_born (g_ty ci) hC.2.2.2.2.2.2.1 (g_uws c1) hKn hkC e1 c3
  refine kk l p e RM s m args below meth c H1 locs (cells + 1) (slots + N) mc ms lsA ⟨hC, hRM, ⟨by omega, by omega, by simp; omega⟩, g_P_app hP hz (fun q hq => o1 q (by omega)) ⟨_, hr, hO.to (fun k hk => ?_)⟩, g_S_app hS (by omega) (fun q hq => o1 q (by omega)), hL⟩
  have hk2 : k < g_nf ci := by have h : N = g_nf ci := c4; have hk : k < N := hk; omega
  show _ = vp_V ((List.range (g_nf ci)).map (g_f G I R S.length ci)) k
  rw [hdef k hk]
  simp [vp_V, hk2, g_f, hI, hR, va_rf]
theorem g_arrK {G : gG} {s : State} (hK : va_K G.2.1 g_cl (g_tys G) s) {k : Nat} {ty : FieldType} (hk : (g_tys G)[k]? = some (G.2.2.1 k, ty)) (hp : ∀ C, ty ≠ .object C) : s.vm.findClass ("[" ++ ty.toString) = some (G.2.2.1 k) := by
  have h := (hK.2 k _ hk).2
  cases ty <;> first | exact h | exact absurd rfl (hp _)
theorem go_newI {n : Int32} {N : Nat} (hd : decode μ.2.1 pc = .ok (.newarray .int, 2)) (hw : Cond.arrayClass .int ∈ g_t) (hn : ¬ n < 0) (hN : n.toNatClampNeg = N) (hb : N * 4 ≤ 536870912) (hI : ∀ j, I S.length j = 0) (kk : Go G μ d rc rs (pc + 2) ls (.ref S.length :: st) (S ++ [(1, N)]) I R L Q) : Go G μ d (rc + 1) (rs + N) pc ls (.int n :: st) S I R L Q := by
  intro l p e RM s m args below meth c H locs cells slots mc ms lsA Z
  obtain ⟨hC, hRM, ⟨h1, h2, h3⟩, hP, hS, hL⟩ := Z
  refine g_size h3 hP hS fun hz => ?_
  refine va_newaK (atype := .int) hC.1 hC.2.1 (hC.2.2.2.2.2.2.1 _ hw) rfl hd rfl hn hN hb (by omega) (by omega) hz fun H1 cA e1 z1 o1 hA hf => ?_
  have ec : cA = G.2.2.1 0 := Option.some.inj (hf.symm.trans (g_arrK hC.2.2.2.2.2.2.2.2.1.1 (k := 0) rfl (fun _ h => by cases h)))
  subst ec
  refine kk l p e RM s m args below meth c H1 locs (cells + 1) (slots + N) mc ms lsA ⟨hC, hRM, ⟨by omega, by omega, by simp; omega⟩, g_P_app hP hz (fun q hq => o1 q (by omega)) ?_, g_S_app hS (by omega) (fun q hq => o1 q (by omega)), hL⟩
  show H1[G.1.size + S.length]? = some (vp_cell _ _)
  rw [e1, vp_cell_i]
  congr 2
  funext j
  rw [hI j]
  rfl
theorem go_newB {n : Int32} {N : Nat} (hd : decode μ.2.1 pc = .ok (.newarray .byte, 2)) (hw : Cond.arrayClass .byte ∈ g_t) (hn : ¬ n < 0) (hN : n.toNatClampNeg = N) (hb : N * 1 ≤ 536870912) (hI : ∀ j, I S.length j = 0) (kk : Go G μ d rc rs (pc + 2) ls (.ref S.length :: st) (S ++ [(2, N)]) I R L Q) : Go G μ d (rc + 1) (rs + N) pc ls (.int n :: st) S I R L Q := by
  intro l p e RM s m args below meth c H locs cells slots mc ms lsA Z
  obtain ⟨hC, hRM, ⟨h1, h2, h3⟩, hP, hS, hL⟩ := Z
  refine g_size h3 hP hS fun hz => ?_
  refine va_newaK (atype := .byte) hC.1 hC.2.1 (hC.2.2.2.2.2.2.1 _ hw) rfl hd rfl hn hN hb (by omega) (by omega) hz fun H1 cA e1 z1 o1 hA hf => ?_
  have ec : cA = G.2.2.1 1 := Option.some.inj (hf.symm.trans (g_arrK hC.2.2.2.2.2.2.2.2.1.1 (k := 1) rfl (fun _ h => by cases h)))
  subst ec
  refine kk l p e RM s m args below meth c H1 locs (cells + 1) (slots + N) mc ms lsA ⟨hC, hRM, ⟨by omega, by omega, by simp; omega⟩, g_P_app hP hz (fun q hq => o1 q (by omega)) ?_, g_S_app hS (by omega) (fun q hq => o1 q (by omega)), hL⟩
  show H1[G.1.size + S.length]? = some (vp_cell _ _)
  rw [e1, vp_cell_i]
  congr 2
  funext j
  rw [hI j]
  rfl
theorem go_newL {n : Int32} {N : Nat} (hd : decode μ.2.1 pc = .ok (.newarray .long, 2)) (hw : Cond.arrayClass .long ∈ g_t) (hn : ¬ n < 0) (hN : n.toNatClampNeg = N) (hb : N * 8 ≤ 536870912) (hI : ∀ j, L S.length j = 0) (kk : Go G μ d rc rs (pc + 2) ls (.ref S.length :: st) (S ++ [(3, N)]) I R L Q) : Go G μ d (rc + 1) (rs + N) pc ls (.int n :: st) S I R L Q := by
  intro l p e RM s m args below meth c H locs cells slots mc ms lsA Z
  obtain ⟨hC, hRM, ⟨h1, h2, h3⟩, hP, hS, hL⟩ := Z
  refine g_size h3 hP hS fun hz => ?_
  refine va_newaK (atype := .long) hC.1 hC.2.1 (hC.2.2.2.2.2.2.1 _ hw) rfl hd rfl hn hN hb (by omega) (by omega) hz fun H1 cA e1 z1 o1 hA hf => ?_
  have ec : cA = G.2.2.1 2 := Option.some.inj (hf.symm.trans (g_arrK hC.2.2.2.2.2.2.2.2.1.1 (k := 2) rfl (fun _ h => by cases h)))
  subst ec
  refine kk l p e RM s m args below meth c H1 locs (cells + 1) (slots + N) mc ms lsA ⟨hC, hRM, ⟨by omega, by omega, by simp; omega⟩, g_P_app hP hz (fun q hq => o1 q (by omega)) ?_, g_S_app hS (by omega) (fun q hq => o1 q (by omega)), hL⟩
  show H1[G.1.size + S.length]? = some (vp_cell _ _)
  rw [e1, vp_cell_l]
  congr 2
  funext j
  rw [hI j]
  rfl
theorem go_newA {κ idx : Nat} {C : String} {n : Int32} {N : Nat} (hd : decode μ.2.1 pc = .ok (.anewarray idx, 3)) (hw : Cond.classLink μ.1.cls idx C ∈ g_t) (ht : ∀ G : gG, (g_tys G)[κ + 3]? = some (G.2.2.1 (κ + 3), .object C)) (hO : ∀ (G : gG) (U : State), g_X G U → va_AO C U) (hn : ¬ n < 0) (hN : n.toNatClampNeg = N) (hb : N * 4 ≤ 536870912) (hR : ∀ j, R S.length j = none) (kk : Go G μ d rc rs (pc + 3) ls (.ref S.length :: st) (S ++ [(κ + 4, N)]) I R L Q) : Go G μ d (rc + 1) (rs + N) pc ls (.int n :: st) S I R L Q := by
  intro l p e RM s m args below meth c H locs cells slots mc ms lsA Z
  obtain ⟨hC, hRM, ⟨h1, h2, h3⟩, hP, hS, hL⟩ := Z
  subst hN
  refine g_size h3 hP hS fun hz => ?_
  refine W.anew hC.1 hC.2.1 hC.2.2.2.2.2.1 (hC.2.2.2.2.2.2.1 _ hw) (va_AO.use (hO G s hC.2.2.2.2.2.2.2.2.1.2)) rfl hd rfl hn hb (by omega) (by omega) fun cA kA comp f1 f2 f3 f4 => ?_
  obtain ⟨kA', comp', -, -, -, g4⟩ := (hC.2.2.2.2.2.2.2.2.1.1.2 _ _ (ht G)).2
  have ec : cA = G.2.2.1 (κ + 3) := Option.some.inj (f1.symm.trans g4)
  subst ec
  have ho : ∀ q : Nat, q < H.size → (H.push ({ cls := G.2.2.1 (κ + 3), slots := Array.replicate n.toNatClampNeg .null, vm := .none } : Cell))[q]? = H[q]? := fun q hq => by rw [Array.getElem?_push, if_neg (Nat.ne_of_lt hq)]
  have k2 := kk l p e RM s m args below meth c (H.push ({ cls := G.2.2.1 (κ + 3), slots := Array.replicate n.toNatClampNeg .null, vm := .none } : Cell)) locs (cells + 1) (slots + n.toNatClampNeg) mc ms lsA ⟨hC, hRM, ⟨by omega, by omega, by simp; omega⟩, g_P_app hP hz ho ?_, g_S_app hS (by simp) ho, hL⟩
  · refine W.eq ?_ k2
    simp only [hz]
    rfl
  · show (H.push _)[G.1.size + S.length]? = some (vp_cell _ _)
    rw [← hz, Array.getElem?_push_size, arrV_new, vp_cell_q]
    congr 2
    funext j
    simp [hR j, va_rf]
/-! calls -/
def g_Y (ν : gm) (n : Nat) : Prop := Cond.code ν.1 ν.2.1 ν.2.2.1 ν.2.2.2 ∈ g_t ∧ Cond.initialized ν.1.cls ∈ g_t ∧ (ν.1.cls ≠ "java/lang/invoke/MethodHandle" ∧ ν.1.cls ≠ "java/lang/invoke/VarHandle") ∧ (parseMethodDescriptor ν.1.desc).map (fun d => d.parameters.length) = some n ∧ ν.2.2.1 ≤ 45
def g_YV (ν : gm) (n : Nat) : Prop := g_Y ν n ∧ Cond.instanceMethod ν.1 ∈ g_t ∧ Cond.selects ν.1.cls ν.1 ν.1 ∈ g_t
def g_YS (ν : gm) (n : Nat) : Prop := g_Y ν n ∧ Cond.static ν.1 ∈ g_t
def g_YI (ν : gm) (n : Nat) : Prop := g_Y ν n ∧ Cond.instanceMethod ν.1 ∈ g_t ∧ ν.1.name = "<init>" ∧ ν.2.2.2 = none
theorem g_callB {G : gG} {ν : gm} {n dd rc2 rs2 idx : Nat} {p : Program} {RM : Room} {s : State} {m : MethodId} {args : Array Value} {meth : Method} {c : Code} (hC : g_C μ G p s m args meth c) (hRM : d ≤ RM.frames ∧ 64 * d ≤ RM.locals) (hY : g_Y ν n) (hl : Cond.methodLink μ.1.cls idx ν.1 ∈ g_t) (hdd : dd + 1 ≤ d) : CallB RM s args μ.1.cls idx ν.1 ν.2.1 ν.2.2.1 ν.2.2.2 (g_w ν) { frames := dd, cells := rc2, slots := rs2, locals := 64 * dd } rc2 rs2 n := by
  obtain ⟨y1, y2, y3, y4, y5⟩ := hY
  have hts := hC.2.2.2.2.2.2.1
  refine callB_of n hts (fun w hw => ?_) rfl rfl rfl (hts _ y2) (hts _ hl) ⟨y3.1, y3.2, y4⟩ ⟨by show dd + 1 ≤ _; omega, by show 8 + (ν.2.2.1 + 11) + 64 * dd ≤ _; omega⟩
  rcases List.mem_cons.mp hw with rfl | h
  · exact ⟨y1, Or.inl rfl⟩
  · exact ⟨h, good_of_word (List.mem_filter.mp h).2⟩
theorem g_blind {G : gG} {as : List Value} : FrameBlind (g_P G as S I R L) := fun a U g mk q => ⟨q.1, q.2.1, q.2.2.1, q.2.2.2.1, g_K.same (s := U) rfl q.2.2.2.2⟩
theorem g_run {G : gG} {p : Program} {l : Launch} {e : Env} {RM : Room} {s : State} {m : MethodId} {args : Array Value} {below : List Frame} {meth : Method} {c : Code} {H : Heap} {locs : List Loc} {cells slots mc ms rc2 rs2 : Nat} {lsA : Array Slot} {st0 : List Value} {a : Array Value}
    (Z : g_Z μ d (rc + rc2) (rs + rs2) ls S I R L G p RM s m args meth c H locs cells slots mc ms lsA) (hz : H.size = G.1.size + S.length)
    (hr : va_Run p l e RM s m args below meth c H locs cells slots rc2 rs2 (F0 m pc lsA st0) (st.map (cv G)) (g_q G (fun r S' I' R' L' => Go G μ d rc rs (pc + 3) ls (r.toList ++ st) S' I' R' L' Q) rc2 a) (g_A G)) :
    W p l e RM s m args below meth c H locs cells slots (MQ below (g_q G Q mc) args s mc ms (g_A G)) (F0 m pc lsA st0) := by
  intro T hT X
  obtain ⟨v, st₀, t, T', Lc, h0, X', hL, e1, e2, ⟨r, S', I', R', L', hv, hgo, hP', hS', hlen⟩, stp⟩ := hr T hT X
  cases hv
  obtain ⟨hC, hRM, ⟨h1, h2, h3⟩, hP, hS, hLs⟩ := Z
  rw [← e1] at hP' hS'
  rw [h0, hz] at hlen
  have k := hgo l p e RM s m args below meth c T'.heap (locs ++ Lc) (cells + rc2) (slots + rs2) mc ms lsA ⟨hC, hRM, ⟨by omega, by omega, by omega⟩, hP', ⟨hS'.1, hS'.2.1, fun q hq => by
    rcases List.mem_append.mp hq with h | h
    · exact hS.2.2 q h
    · exact hL q h⟩, hLs⟩
  obtain ⟨t2, a1, b1⟩ := k T' rfl X'
  refine ⟨t2, stp t2 ?_, b1⟩
  cases r with
  | none => exact a1
  | some z => exact a1
theorem go_callV {ν : gm} {n a ci idx dd rc2 rs2 : Nat} (as : List Value) (hd : decode μ.2.1 pc = .ok (.invokevirtual idx, 3)) (hY : g_YV ν n) (hl : Cond.methodLink μ.1.cls idx ν.1 ∈ g_t) (hs : S[a]? = some (0, ci)) (hc : ∃ r, g_cl[ci]? = some r ∧ r.1 = ν.1.cls) (hn : as.length = n) (hst : (st.map fun v => v.category).sum ≤ 8) (hdd : dd + 1 ≤ d) {st0 : List Value} (he : as.reverse ++ .ref a :: st = st0)
    (hM : Mt G ν dd rc2 rs2 (.ref a :: as) S I R L (fun r S' I' R' L' => Go G μ d rc rs (pc + 3) ls (r.toList ++ st) S' I' R' L' Q)) : Go G μ d (rc + rc2) (rs + rs2) pc ls st0 S I R L Q := by
  subst he
  intro l p e RM s m args below meth c H locs cells slots mc ms lsA Z
  have hC := Z.1
  refine g_size Z.2.2.1.2.2 Z.2.2.2.1 Z.2.2.2.2.1 fun hz => ?_
  obtain ⟨r, hr, hcn⟩ := hc
  have hts := hC.2.2.2.2.2.2.1
  have hcm : (as.map (cv G)).reverse ++ (.ref (G.1.size + a) :: st.map (cv G)) = (as.reverse ++ .ref a :: st).map (cv G) := by simp [cv]
  rw [← hcm]
  have hrecv := va_recv hC.2.2.2.2.2.2.2.2.1.1 Z.2.2.2.1 hr (g_W_at hs)
  rw [hcn] at hrecv
  refine g_run Z hz (va_runV (nL := μ.2.2.1) (C := ν.1.cls) (b := G.1.size + a) (n := n) (rest := st.map (cv G)) ⟨hC.1, hC.2.1, hC.2.2.1, hC.2.2.2.2.2.1, hts⟩ (hM l) ⟨g_callB hC ⟨Z.2.1.1, Z.2.1.2.1⟩ hY.1 hl hdd, hts _ hY.2.1, hts _ hY.2.2⟩ ⟨g_blind, hrecv, fun U hU hW => ⟨rfl, by rw [hU]; exact hz, by rw [hU]; exact Z.2.2.2.1, by rw [hU]; exact ⟨Z.2.2.2.2.1.1, Z.2.2.2.2.1.2.1, fun _ h => by cases h⟩, g_K.warm hW hC.2.2.2.2.2.2.2.2.1⟩⟩ rfl (by simpa using hn) Z.2.2.2.2.2.1 rfl (lv_room (by rw [cv_cats]; exact hst)) hd ⟨by have := Z.2.2.1.1; have := Z.2.1.2.2.1; omega, by have := Z.2.2.1.2.1; have := Z.2.1.2.2.2; omega⟩)
theorem go_callS {ν : gm} {n idx dd rc2 rs2 : Nat} (as : List Value) (hd : decode μ.2.1 pc = .ok (.invokestatic idx, 3)) (hY : g_YS ν n) (hl : Cond.methodLink μ.1.cls idx ν.1 ∈ g_t) (hn : as.length = n) (hst : (st.map fun v => v.category).sum ≤ 8) (hdd : dd + 1 ≤ d) {st0 : List Value} (he : as.reverse ++ st = st0)
    (hM : Mt G ν dd rc2 rs2 as S I R L (fun r S' I' R' L' => Go G μ d rc rs (pc + 3) ls (r.toList ++ st) S' I' R' L' Q)) : Go G μ d (rc + rc2) (rs + rs2) pc ls st0 S I R L Q := by
  subst he
  intro l p e RM s m args below meth c H locs cells slots mc ms lsA Z
  have hC := Z.1
  refine g_size Z.2.2.1.2.2 Z.2.2.2.1 Z.2.2.2.2.1 fun hz => ?_
  have hts := hC.2.2.2.2.2.2.1
  have hcm : (as.map (cv G)).reverse ++ st.map (cv G) = (as.reverse ++ st).map (cv G) := by simp
  rw [← hcm]
  refine g_run Z hz (va_runS (nL := μ.2.2.1) (n := n) (rest := st.map (cv G)) ⟨hC.1, hC.2.1, hC.2.2.1, hC.2.2.2.2.2.1, hts⟩ (hM l) ⟨g_callB hC ⟨Z.2.1.1, Z.2.1.2.1⟩ hY.1 hl hdd, hts _ hY.2⟩ ⟨g_blind, fun U hU hW => ⟨rfl, by rw [hU]; exact hz, by rw [hU]; exact Z.2.2.2.1, by rw [hU]; exact ⟨Z.2.2.2.2.1.1, Z.2.2.2.2.1.2.1, fun _ h => by cases h⟩, g_K.warm hW hC.2.2.2.2.2.2.2.2.1⟩⟩ rfl (by simpa using hn) Z.2.2.2.2.2.1 rfl (lv_room (by rw [cv_cats]; exact hst)) hd ⟨by have := Z.2.2.1.1; have := Z.2.1.2.2.1; omega, by have := Z.2.2.1.2.1; have := Z.2.1.2.2.2; omega⟩)
theorem go_callI {ν : gm} {n a idx dd rc2 rs2 : Nat} (as : List Value) (hd : decode μ.2.1 pc = .ok (.invokespecial idx, 3)) (hY : g_YI ν n) (hl : Cond.methodLink μ.1.cls idx ν.1 ∈ g_t) (hn : as.length = n) (hst : (st.map fun v => v.category).sum ≤ 8) (hdd : dd + 1 ≤ d) {st0 : List Value} (he : as.reverse ++ .ref a :: st = st0)
    (hM : Mt G ν dd rc2 rs2 (.ref a :: as) S I R L (fun r S' I' R' L' => Go G μ d rc rs (pc + 3) ls (r.toList ++ st) S' I' R' L' Q)) : Go G μ d (rc + rc2) (rs + rs2) pc ls st0 S I R L Q := by
  subst he
  intro l p e RM s m args below meth c H locs cells slots mc ms lsA Z
  have hC := Z.1
  refine g_size Z.2.2.1.2.2 Z.2.2.2.1 Z.2.2.2.2.1 fun hz => ?_
  have hts := hC.2.2.2.2.2.2.1
  have hcm : (as.map (cv G)).reverse ++ (.ref (G.1.size + a) :: st.map (cv G)) = (as.reverse ++ .ref a :: st).map (cv G) := by simp [cv]
  rw [← hcm]
  have hB := g_callB (rc2 := rc2) (rs2 := rs2) hC ⟨Z.2.1.1, Z.2.1.2.1⟩ hY.1 hl hdd
  rw [hY.2.2.2] at hB
  refine g_run Z hz (va_runI (nL := μ.2.2.1) (b := G.1.size + a) (n := n) (rest := st.map (cv G)) ⟨hC.1, hC.2.1, hC.2.2.1, hC.2.2.2.2.2.1, hts⟩ (hM l) ⟨hB, hY.2.2.1, hts _ hY.2.1⟩ ⟨g_blind, fun U hU hW => ⟨rfl, by rw [hU]; exact hz, by rw [hU]; exact Z.2.2.2.1, by rw [hU]; exact ⟨Z.2.2.2.2.1.1, Z.2.2.2.2.1.2.1, fun _ h => by cases h⟩, g_K.warm hW hC.2.2.2.2.2.2.2.2.1⟩⟩ rfl (by simpa using hn) Z.2.2.2.2.2.1 rfl (lv_room (by rw [cv_cats]; exact hst)) hd ⟨by have := Z.2.2.1.1; have := Z.2.1.2.2.1; omega, by have := Z.2.2.1.2.1; have := Z.2.1.2.2.2; omega⟩)
theorem go_objInit {a idx : Nat} (hd : decode μ.2.1 pc = .ok (.invokespecial idx, 3)) (hl : Cond.methodLink μ.1.cls idx Lib.objectInit ∈ g_t) (h2 : Cond.instanceMethod Lib.objectInit ∈ g_t) (h3 : Cond.code Lib.objectInit ⟨#[0xb1]⟩ 1 none ∈ g_t) (hst : (st.map fun v => v.category).sum ≤ 8) (hdd : 1 ≤ d) (kk : Go G μ d rc rs (pc + 3) ls st S I R L Q) : Go G μ d rc rs pc ls (.ref a :: st) S I R L Q := by
  intro l p e RM s m args below meth c H locs cells slots mc ms lsA Z
  have hts := Z.1.2.2.2.2.2.2.1
  exact W.objInit (rest := st.map (cv G)) Z.1.1 Z.1.2.1 Z.1.2.2.2.2.2.1 (hts _ hl) (hts _ h2) (hts _ h3) rfl (Z.2.2.2.2.2.1.trans Z.1.2.2.1.symm) rfl hd (Nat.le_trans hdd Z.2.1.1) (by show 2 * 0 + _ + 12 ≤ _; rw [cv_cats]; have := Z.2.1.2.1; omega) (kk l p e RM s m args below meth c H locs cells slots mc ms lsA Z)
theorem go_mmax {x y : Int32} {idx : Nat} (hd : decode μ.2.1 pc = .ok (.invokestatic idx, 3)) (hl : Cond.methodLink μ.1.cls idx Lib.Math.max.name ∈ g_t) (h1 : Cond.static Lib.Math.max.name ∈ g_t) (h2 : Cond.initialized "java/lang/Math" ∈ g_t) (h3 : Cond.code Lib.Math.max.name Lib.Math.max.code 2 (some .int) ∈ g_t) (hst : (st.map fun v => v.category).sum ≤ 8) (hdd : 1 ≤ d) (kk : Go G μ d rc rs (pc + 3) ls (.int (if x < y then y else x) :: st) S I R L Q) : Go G μ d rc rs pc ls (.int y :: .int x :: st) S I R L Q := by
  intro l p e RM s m args below meth c H locs cells slots mc ms lsA Z
  have hts := Z.1.2.2.2.2.2.2.1
  exact va_mmax Z.1.1 Z.1.2.1 (Z.1.2.2.1.trans Z.2.2.2.2.2.1.symm) Z.1.2.2.2.2.2.1 (hts _ hl) (hts _ h1) (hts _ h2) (hts _ h3) (Nat.le_trans hdd Z.2.1.1) (by rw [cv_cats]; have := Z.2.1.2.1; omega) (by have := Z.2.2.1.1; have := Z.2.1.2.2.1; omega) (by have := Z.2.2.1.2.1; have := Z.2.1.2.2.2; omega) hd (kk l p e RM s m args below meth c H locs cells slots mc ms lsA Z)
theorem go_mmin {x y : Int32} {idx : Nat} (hd : decode μ.2.1 pc = .ok (.invokestatic idx, 3)) (hl : Cond.methodLink μ.1.cls idx Lib.Math.min.name ∈ g_t) (h1 : Cond.static Lib.Math.min.name ∈ g_t) (h2 : Cond.initialized "java/lang/Math" ∈ g_t) (h3 : Cond.code Lib.Math.min.name Lib.Math.min.code 2 (some .int) ∈ g_t) (hst : (st.map fun v => v.category).sum ≤ 8) (hdd : 1 ≤ d) (kk : Go G μ d rc rs (pc + 3) ls (.int (if y < x then y else x) :: st) S I R L Q) : Go G μ d rc rs pc ls (.int y :: .int x :: st) S I R L Q := by
  intro l p e RM s m args below meth c H locs cells slots mc ms lsA Z
  have hts := Z.1.2.2.2.2.2.2.1
  exact va_mmin Z.1.1 Z.1.2.1 (Z.1.2.2.1.trans Z.2.2.2.2.2.1.symm) Z.1.2.2.2.2.2.1 (hts _ hl) (hts _ h1) (hts _ h2) (hts _ h3) (Nat.le_trans hdd Z.2.1.1) (by rw [cv_cats]; have := Z.2.1.2.1; omega) (by have := Z.2.2.1.1; have := Z.2.1.2.2.1; omega) (by have := Z.2.2.1.2.1; have := Z.2.1.2.2.2; omega) hd (kk l p e RM s m args below meth c H locs cells slots mc ms lsA Z)
theorem go_mabs {x : Int32} {idx : Nat} (hd : decode μ.2.1 pc = .ok (.invokestatic idx, 3)) (hl : Cond.methodLink μ.1.cls idx Lib.Math.abs.name ∈ g_t) (h1 : Cond.static Lib.Math.abs.name ∈ g_t) (h2 : Cond.initialized "java/lang/Math" ∈ g_t) (h3 : Cond.code Lib.Math.abs.name Lib.Math.abs.code 1 (some .int) ∈ g_t) (hst : (st.map fun v => v.category).sum ≤ 8) (hdd : 1 ≤ d) (kk : Go G μ d rc rs (pc + 3) ls (.int (if 0 ≤ x then x else 0 - x) :: st) S I R L Q) : Go G μ d rc rs pc ls (.int x :: st) S I R L Q := by
  intro l p e RM s m args below meth c H locs cells slots mc ms lsA Z
  have hts := Z.1.2.2.2.2.2.2.1
  exact va_mabs Z.1.1 Z.1.2.1 (Z.1.2.2.1.trans Z.2.2.2.2.2.1.symm) Z.1.2.2.2.2.2.1 (hts _ hl) (hts _ h1) (hts _ h2) (hts _ h3) (Nat.le_trans hdd Z.2.1.1) (by rw [cv_cats]; have := Z.2.1.2.1; omega) (by have := Z.2.2.1.1; have := Z.2.1.2.2.1; omega) (by have := Z.2.2.1.2.1; have := Z.2.1.2.2.2; omega) hd (kk l p e RM s m args below meth c H locs cells slots mc ms lsA Z)
/-- a row of ints behind another's -/
def cpy (I : gI) (a c sp dp n : Nat) : gI := fun q => if q = c then va_cpy (I a) (I c) sp dp n else I q
theorem cpy_at (I : gI) (a c sp dp n k : Nat) : cpy I a c sp dp n c k = if dp ≤ k ∧ k < dp + n then I a (sp + (k - dp)) else I c k := by simp [cpy, va_cpy]
theorem cpy_off {I : gI} {a c sp dp n q : Nat} (h : q ≠ c) : cpy I a c sp dp n q = I q := by simp [cpy, h]
theorem go_copy {a c0 n0 n1 idx : Nat} {sp dp n : Int32} (hd : decode μ.2.1 pc = .ok (.invokestatic idx, 3)) (hl : Cond.methodLink μ.1.cls idx arraycopyName ∈ g_t) (h1 : Cond.native arraycopyName ∈ g_t) (h2 : Cond.static arraycopyName ∈ g_t) (h3 : Cond.initialized "java/lang/System" ∈ g_t) (hs0 : S[a]? = some (1, n0)) (hs1 : S[c0]? = some (1, n1)) (b1 : ¬ sp < 0) (b2 : ¬ dp < 0) (b3 : ¬ n < 0) (b4 : sp.toNatClampNeg + n.toNatClampNeg ≤ n0) (b5 : dp.toNatClampNeg + n.toNatClampNeg ≤ n1) (hst : (st.map fun v => v.category).sum ≤ 8) (hdd : nativeFrameWords "java/lang/System" "arraycopy" 5 + 19 ≤ 64 * d)
    (kk : Go G μ d rc rs (pc + 3) ls st S (cpy I a c0 sp.toNatClampNeg dp.toNatClampNeg n.toNatClampNeg) R L Q) : Go G μ d rc rs pc ls (.int n :: .int dp :: .ref c0 :: .int sp :: .ref a :: st) S I R L Q := by
  intro l p e RM s m args below meth c H locs cells slots mc ms lsA Z
  have hts := Z.1.2.2.2.2.2.2.1
  refine va_copyi (H0 := G.1) (A := g_A G) (rest := st.map (cv G)) Z.1.1 Z.1.2.1 (Z.1.2.2.1.trans Z.2.2.2.2.2.1.symm) Z.1.2.2.2.2.2.1 (hts _ hl) (hts _ h1) (hts _ h2) (hts _ h3) Z.1.2.2.2.2.2.2.2.2.1.1 Z.2.2.2.1 g_D Z.2.2.2.2.1 a c0 0 0 (g_W_at hs0) (g_W_at hs1) rfl rfl rfl b1 b2 b3 b4 b5 (fun _ _ => rfl) (by have := Z.2.1.1; omega) (by rw [cv_cats]; have := Z.2.1.2.1; omega) hd (fun H1 locs1 hP1 hD1 hS1 => ?_)
  have e0 : va_cpy (I a) (I c0) sp.toNatClampNeg dp.toNatClampNeg n.toNatClampNeg = cpy I a c0 sp.toNatClampNeg dp.toNatClampNeg n.toNatClampNeg c0 := by simp [cpy]
  have hP1 : va_P G.2.1 g_cl ((g_W G S I R L).set c0 (G.1.size + c0, .inl (G.2.2.1 0, n1, .inl (va_cpy (I a) (I c0) sp.toNatClampNeg dp.toNatClampNeg n.toNatClampNeg)))) H1 := hP1
  rw [e0] at hP1
  have e2 : (g_W G S I R L).set c0 (G.1.size + c0, .inl (G.2.2.1 0, n1, .inl (cpy I a c0 sp.toNatClampNeg dp.toNatClampNeg n.toNatClampNeg c0))) = g_W G S (cpy I a c0 sp.toNatClampNeg dp.toNatClampNeg n.toNatClampNeg) R L := g_W_set (I := I) (R := R) (R' := R) (L := L) (L' := L) hs1 (fun z hz => cpy_off hz) (fun _ _ => rfl) (fun _ _ => rfl)
  rw [e2] at hP1
  exact kk l p e RM s m args below meth c H1 locs1 cells slots mc ms lsA ⟨Z.1, Z.2.1, Z.2.2.1, hP1, hS1, Z.2.2.2.2.2⟩
/-! what lies outside -/
theorem g_S2 {G : gG} {H H2 : Heap} {locs : List Loc} (h0 : va_S (g_A G) G.1 H []) (hS : va_S (g_A G) G.1 H2 locs) (hz : H.size ≤ H2.size) : va_S (g_A G) H H2 locs :=
  ⟨hz, fun q h1 h2 => by
    have hq : q < G.1.size := Nat.not_le.mp h2
    rw [hS.2.1 q hq h2, h0.2.1 q hq h2], hS.2.2⟩
theorem g_Sz {G : gG} {p : Program} {RM : Room} {s : State} {m : MethodId} {args : Array Value} {meth : Method} {c : Code} {H : Heap} {locs : List Loc} {cells slots mc ms : Nat} {lsA : Array Slot} (Z : g_Z μ d rc rs ls S I R L G p RM s m args meth c H locs cells slots mc ms lsA) (hz : H.size = G.1.size + S.length) : va_S (g_A G) s.heap H locs :=
  g_S2 Z.1.2.2.2.2.2.2.2.2.2 Z.2.2.2.2.1 (by have := Z.2.2.1.2.2; omega)
/-- NAMES_OF, out of the reader -/
theorem go_names (hm : μ.1.cls = "SpoonScales$Reader") (hd : decode μ.2.1 pc = .ok (.getstatic 166, 3)) (kk : Go G μ d rc rs (pc + 3) ls (.float 1 :: st) S I R L Q) : Go G μ d rc rs pc ls st S I R L Q := by
  intro l p e RM s m args below meth c H locs cells slots mc ms lsA Z
  refine g_size Z.2.2.1.2.2 Z.2.2.2.1 Z.2.2.2.2.1 fun hz => ?_
  have hx := Z.1.2.2.2.2.2.2.2.2.1.2
  have hk := Z.1.2.2.2.2.2.2.2.2.2.2.1
  exact va_getsN (own := "SpoonScales$Reader") Z.1.1 Z.1.2.1 (hx.2.2.1.kept hk) (g_Sz Z hz) (by have := Z.1.2.2.2.2.2.1; rw [hm] at this; exact this) (va_Nw.use rfl hx.2.2.2.2.2.2.2.2.2.2.1) (fun _ h => h) hd (kk l p e RM s m args below meth c H locs cells slots mc ms lsA Z)
theorem go_choose {idx : Nat} (hd : decode μ.2.1 pc = .ok (.getstatic idx, 3)) (hl : Cond.fieldLink μ.1.cls idx "SpoonScales" "CHOOSE" "[I" ∈ g_t) (kk : Go G μ d rc rs (pc + 3) ls (.float 2 :: st) S I R L Q) : Go G μ d rc rs pc ls st S I R L Q := by
  intro l p e RM s m args below meth c H locs cells slots mc ms lsA Z
  refine g_size Z.2.2.1.2.2 Z.2.2.2.1 Z.2.2.2.2.1 fun hz => ?_
  have hx := Z.1.2.2.2.2.2.2.2.2.1.2
  have hk := Z.1.2.2.2.2.2.2.2.2.2.2.1
  exact va_gets Z.1.1 Z.1.2.1 (hx.2.2.2.2.1.kept hk) (g_Sz Z hz) Z.1.2.2.2.2.2.1 (Z.1.2.2.2.2.2.2.1 _ hl) (fun _ h => h) hd (kk l p e RM s m args below meth c H locs cells slots mc ms lsA Z)
theorem go_names_ld {i : Int32} (hd : decode μ.2.1 pc = .ok (.iaload, 1)) (hin : vp_in i 3) (kk : Go G μ d rc rs (pc + 1) ls (.int (g_no.getD i.toNatClampNeg 0) :: st) S I R L Q) : Go G μ d rc rs pc ls (.int i :: .float 1 :: st) S I R L Q := by
  intro l p e RM s m args below meth c H locs cells slots mc ms lsA Z
  refine g_size Z.2.2.1.2.2 Z.2.2.2.1 Z.2.2.2.2.1 fun hz => ?_
  have hx := Z.1.2.2.2.2.2.2.2.2.1.2
  have hk := Z.1.2.2.2.2.2.2.2.2.2.2.1
  exact va_ti Z.1.1 Z.1.2.1 (hx.2.2.2.1.kept hk) (g_Sz Z hz) hin rfl hd (kk l p e RM s m args below meth c H locs cells slots mc ms lsA Z)
theorem go_choose_ld {i : Int32} (hd : decode μ.2.1 pc = .ok (.iaload, 1)) (hin : vp_in i 49) (kk : Go G μ d rc rs (pc + 1) ls (.int (g_ch.getD i.toNatClampNeg 0) :: st) S I R L Q) : Go G μ d rc rs pc ls (.int i :: .float 2 :: st) S I R L Q := by
  intro l p e RM s m args below meth c H locs cells slots mc ms lsA Z
  refine g_size Z.2.2.1.2.2 Z.2.2.2.1 Z.2.2.2.2.1 fun hz => ?_
  have hx := Z.1.2.2.2.2.2.2.2.2.1.2
  have hk := Z.1.2.2.2.2.2.2.2.2.2.2.1
  exact va_ti Z.1.1 Z.1.2.1 (hx.2.2.2.2.2.1.kept hk) (g_Sz Z hz) hin rfl hd (kk l p e RM s m args below meth c H locs cells slots mc ms lsA Z)
end GN
end
section
def mX0_init : gm := (yX0_init, cX0_init, 2, none)
theorem YX0_init : g_YI mX0_init 0 := ⟨⟨g_in 109 (by decide +kernel) rfl, g_in 77 (by decide +kernel) rfl, by decide +kernel, by decide +kernel, Nat.le_of_ble_eq_true rfl⟩, g_in 108 (by decide +kernel) rfl, rfl, rfl⟩
def mX0_spoonful : gm := (yX0_spoonful, cX0_spoonful, 7, (some .int))
theorem YX0_spoonful : g_YV mX0_spoonful 3 := ⟨⟨g_in 473 (by decide +kernel) rfl, g_in 77 (by decide +kernel) rfl, by decide +kernel, by decide +kernel, Nat.le_of_ble_eq_true rfl⟩, g_in 471 (by decide +kernel) rfl, g_in 472 (by decide +kernel) rfl⟩
def mX0_roomIn : gm := (yX0_roomIn, cX0_roomIn, 5, (some .int))
theorem YX0_roomIn : g_YV mX0_roomIn 2 := ⟨⟨g_in 477 (by decide +kernel) rfl, g_in 77 (by decide +kernel) rfl, by decide +kernel, by decide +kernel, Nat.le_of_ble_eq_true rfl⟩, g_in 475 (by decide +kernel) rfl, g_in 476 (by decide +kernel) rfl⟩
def mX0_isGuilty : gm := (yX0_isGuilty, cX0_isGuilty, 5, (some .boolean))
theorem YX0_isGuilty : g_YV mX0_isGuilty 2 := ⟨⟨g_in 529 (by decide +kernel) rfl, g_in 77 (by decide +kernel) rfl, by decide +kernel, by decide +kernel, Nat.le_of_ble_eq_true rfl⟩, g_in 527 (by decide +kernel) rfl, g_in 528 (by decide +kernel) rfl⟩
def mX0_biteOf : gm := (yX0_biteOf, cX0_biteOf, 5, (some .int))
theorem YX0_biteOf : g_YV mX0_biteOf 3 := ⟨⟨g_in 513 (by decide +kernel) rfl, g_in 77 (by decide +kernel) rfl, by decide +kernel, by decide +kernel, Nat.le_of_ble_eq_true rfl⟩, g_in 512 (by decide +kernel) rfl, g_in 5 (by decide +kernel) rfl⟩
def mX0_ruling : gm := (yX0_ruling, cX0_ruling, 2, (some (.object "SpoonScales$Law")))
theorem YX0_ruling : g_YV mX0_ruling 0 := ⟨⟨g_in 481 (by decide +kernel) rfl, g_in 77 (by decide +kernel) rfl, by decide +kernel, by decide +kernel, Nat.le_of_ble_eq_true rfl⟩, g_in 480 (by decide +kernel) rfl, g_in 2 (by decide +kernel) rfl⟩
def mX0_nameEater : gm := (yX0_nameEater, cX0_nameEater, 3, none)
theorem YX0_nameEater : g_YV mX0_nameEater 2 := ⟨⟨g_in 489 (by decide +kernel) rfl, g_in 77 (by decide +kernel) rfl, by decide +kernel, by decide +kernel, Nat.le_of_ble_eq_true rfl⟩, g_in 488 (by decide +kernel) rfl, g_in 3 (by decide +kernel) rfl⟩
def mX0_reckon : gm := (yX0_reckon, cX0_reckon, 7, (some .int))
theorem YX0_reckon : g_YV mX0_reckon 2 := ⟨⟨g_in 493 (by decide +kernel) rfl, g_in 77 (by decide +kernel) rfl, by decide +kernel, by decide +kernel, Nat.le_of_ble_eq_true rfl⟩, g_in 492 (by decide +kernel) rfl, g_in 4 (by decide +kernel) rfl⟩
def mX0_isValue : gm := (yX0_isValue, cX0_isValue, 1, (some .boolean))
theorem YX0_isValue : g_YS mX0_isValue 1 := ⟨⟨g_in 496 (by decide +kernel) rfl, g_in 77 (by decide +kernel) rfl, by decide +kernel, by decide +kernel, Nat.le_of_ble_eq_true rfl⟩, g_in 495 (by decide +kernel) rfl⟩
def mX0_combine : gm := (yX0_combine, cX0_combine, 5, (some .int))
theorem YX0_combine : g_YS mX0_combine 3 := ⟨⟨g_in 499 (by decide +kernel) rfl, g_in 77 (by decide +kernel) rfl, by decide +kernel, by decide +kernel, Nat.le_of_ble_eq_true rfl⟩, g_in 498 (by decide +kernel) rfl⟩
def mX1_init : gm := (yX1_init, cX1_init, 2, none)
theorem YX1_init : g_YI mX1_init 0 := ⟨⟨g_in 115 (by decide +kernel) rfl, g_in 78 (by decide +kernel) rfl, by decide +kernel, by decide +kernel, Nat.le_of_ble_eq_true rfl⟩, g_in 114 (by decide +kernel) rfl, rfl, rfl⟩
def mX1_copyFrom : gm := (yX1_copyFrom, cX1_copyFrom, 3, none)
theorem YX1_copyFrom : g_YV mX1_copyFrom 1 := ⟨⟨g_in 954 (by decide +kernel) rfl, g_in 78 (by decide +kernel) rfl, by decide +kernel, by decide +kernel, Nat.le_of_ble_eq_true rfl⟩, g_in 952 (by decide +kernel) rfl, g_in 953 (by decide +kernel) rfl⟩
def mX1_keepStep : gm := (yX1_keepStep, cX1_keepStep, 3, none)
theorem YX1_keepStep : g_YV mX1_keepStep 0 := ⟨⟨g_in 458 (by decide +kernel) rfl, g_in 78 (by decide +kernel) rfl, by decide +kernel, by decide +kernel, Nat.le_of_ble_eq_true rfl⟩, g_in 456 (by decide +kernel) rfl, g_in 457 (by decide +kernel) rfl⟩
def mX1_writeSpoon : gm := (yX1_writeSpoon, cX1_writeSpoon, 5, none)
theorem YX1_writeSpoon : g_YV mX1_writeSpoon 3 := ⟨⟨g_in 517 (by decide +kernel) rfl, g_in 78 (by decide +kernel) rfl, by decide +kernel, by decide +kernel, Nat.le_of_ble_eq_true rfl⟩, g_in 515 (by decide +kernel) rfl, g_in 516 (by decide +kernel) rfl⟩
def mX1_writeDent : gm := (yX1_writeDent, cX1_writeDent, 4, none)
theorem YX1_writeDent : g_YV mX1_writeDent 2 := ⟨⟨g_in 537 (by decide +kernel) rfl, g_in 78 (by decide +kernel) rfl, by decide +kernel, by decide +kernel, Nat.le_of_ble_eq_true rfl⟩, g_in 535 (by decide +kernel) rfl, g_in 536 (by decide +kernel) rfl⟩
def mX1_contradict : gm := (yX1_contradict, cX1_contradict, 5, (some .boolean))
theorem YX1_contradict : g_YV mX1_contradict 2 := ⟨⟨g_in 910 (by decide +kernel) rfl, g_in 78 (by decide +kernel) rfl, by decide +kernel, by decide +kernel, Nat.le_of_ble_eq_true rfl⟩, g_in 908 (by decide +kernel) rfl, g_in 909 (by decide +kernel) rfl⟩
def mX1_untold : gm := (yX1_untold, cX1_untold, 2, (some .int))
theorem YX1_untold : g_YV mX1_untold 1 := ⟨⟨g_in 942 (by decide +kernel) rfl, g_in 78 (by decide +kernel) rfl, by decide +kernel, by decide +kernel, Nat.le_of_ble_eq_true rfl⟩, g_in 940 (by decide +kernel) rfl, g_in 941 (by decide +kernel) rfl⟩
def mX1_forgetTold : gm := (yX1_forgetTold, cX1_forgetTold, 2, none)
theorem YX1_forgetTold : g_YV mX1_forgetTold 0 := ⟨⟨g_in 934 (by decide +kernel) rfl, g_in 78 (by decide +kernel) rfl, by decide +kernel, by decide +kernel, Nat.le_of_ble_eq_true rfl⟩, g_in 932 (by decide +kernel) rfl, g_in 933 (by decide +kernel) rfl⟩
def mX2_init : gm := (yX2_init, cX2_init, 1, none)
theorem YX2_init : g_YI mX2_init 0 := ⟨⟨g_in 231 (by decide +kernel) rfl, g_in 80 (by decide +kernel) rfl, by decide +kernel, by decide +kernel, Nat.le_of_ble_eq_true rfl⟩, g_in 230 (by decide +kernel) rfl, rfl, rfl⟩
def mX2_wipe : gm := (yX2_wipe, cX2_wipe, 2, none)
theorem YX2_wipe : g_YV mX2_wipe 0 := ⟨⟨g_in 236 (by decide +kernel) rfl, g_in 80 (by decide +kernel) rfl, by decide +kernel, by decide +kernel, Nat.le_of_ble_eq_true rfl⟩, g_in 234 (by decide +kernel) rfl, g_in 235 (by decide +kernel) rfl⟩
def mX2_has : gm := (yX2_has, cX2_has, 2, (some .boolean))
theorem YX2_has : g_YV mX2_has 1 := ⟨⟨g_in 485 (by decide +kernel) rfl, g_in 80 (by decide +kernel) rfl, by decide +kernel, by decide +kernel, Nat.le_of_ble_eq_true rfl⟩, g_in 483 (by decide +kernel) rfl, g_in 484 (by decide +kernel) rfl⟩
def mX2_emit : gm := (yX2_emit, cX2_emit, 2, none)
theorem YX2_emit : g_YV mX2_emit 1 := ⟨⟨g_in 716 (by decide +kernel) rfl, g_in 80 (by decide +kernel) rfl, by decide +kernel, by decide +kernel, Nat.le_of_ble_eq_true rfl⟩, g_in 714 (by decide +kernel) rfl, g_in 715 (by decide +kernel) rfl⟩
def mX3_init : gm := (yX3_init, cX3_init, 1, none)
theorem YX3_init : g_YI mX3_init 0 := ⟨⟨g_in 343 (by decide +kernel) rfl, g_in 81 (by decide +kernel) rfl, by decide +kernel, by decide +kernel, Nat.le_of_ble_eq_true rfl⟩, g_in 342 (by decide +kernel) rfl, rfl, rfl⟩
def mX3_read : gm := (yX3_read, cX3_read, 4, none)
theorem YX3_read : g_YV mX3_read 2 := ⟨⟨g_in 566 (by decide +kernel) rfl, g_in 81 (by decide +kernel) rfl, by decide +kernel, by decide +kernel, Nat.le_of_ble_eq_true rfl⟩, g_in 564 (by decide +kernel) rfl, g_in 565 (by decide +kernel) rfl⟩
def mX3_fail : gm := (yX3_fail, cX3_fail, 2, none)
theorem YX3_fail : g_YV mX3_fail 1 := ⟨⟨g_in 703 (by decide +kernel) rfl, g_in 81 (by decide +kernel) rfl, by decide +kernel, by decide +kernel, Nat.le_of_ble_eq_true rfl⟩, g_in 702 (by decide +kernel) rfl, g_in 12 (by decide +kernel) rfl⟩
def mX3_advance : gm := (yX3_advance, cX3_advance, 1, none)
theorem YX3_advance : g_YV mX3_advance 0 := ⟨⟨g_in 572 (by decide +kernel) rfl, g_in 81 (by decide +kernel) rfl, by decide +kernel, by decide +kernel, Nat.le_of_ble_eq_true rfl⟩, g_in 571 (by decide +kernel) rfl, g_in 7 (by decide +kernel) rfl⟩
def mX3_isLetter : gm := (yX3_isLetter, cX3_isLetter, 1, (some .boolean))
theorem YX3_isLetter : g_YS mX3_isLetter 1 := ⟨⟨g_in 575 (by decide +kernel) rfl, g_in 81 (by decide +kernel) rfl, by decide +kernel, by decide +kernel, Nat.le_of_ble_eq_true rfl⟩, g_in 574 (by decide +kernel) rfl⟩
def mX3_isDigit : gm := (yX3_isDigit, cX3_isDigit, 1, (some .boolean))
theorem YX3_isDigit : g_YS mX3_isDigit 1 := ⟨⟨g_in 631 (by decide +kernel) rfl, g_in 81 (by decide +kernel) rfl, by decide +kernel, by decide +kernel, Nat.le_of_ble_eq_true rfl⟩, g_in 630 (by decide +kernel) rfl⟩
def mX3_wordAt : gm := (yX3_wordAt, cX3_wordAt, 8, (some .int))
theorem YX3_wordAt : g_YV mX3_wordAt 2 := ⟨⟨g_in 579 (by decide +kernel) rfl, g_in 81 (by decide +kernel) rfl, by decide +kernel, by decide +kernel, Nat.le_of_ble_eq_true rfl⟩, g_in 578 (by decide +kernel) rfl, g_in 8 (by decide +kernel) rfl⟩
def mX3_readNumber : gm := (yX3_readNumber, cX3_readNumber, 1, none)
theorem YX3_readNumber : g_YV mX3_readNumber 0 := ⟨⟨g_in 635 (by decide +kernel) rfl, g_in 81 (by decide +kernel) rfl, by decide +kernel, by decide +kernel, Nat.le_of_ble_eq_true rfl⟩, g_in 634 (by decide +kernel) rfl, g_in 9 (by decide +kernel) rfl⟩
def mX3_readSign : gm := (yX3_readSign, cX3_readSign, 2, none)
theorem YX3_readSign : g_YV mX3_readSign 0 := ⟨⟨g_in 639 (by decide +kernel) rfl, g_in 81 (by decide +kernel) rfl, by decide +kernel, by decide +kernel, Nat.le_of_ble_eq_true rfl⟩, g_in 638 (by decide +kernel) rfl, g_in 10 (by decide +kernel) rfl⟩
def mX3_readClause : gm := (yX3_readClause, cX3_readClause, 3, none)
theorem YX3_readClause : g_YV mX3_readClause 1 := ⟨⟨g_in 699 (by decide +kernel) rfl, g_in 81 (by decide +kernel) rfl, by decide +kernel, by decide +kernel, Nat.le_of_ble_eq_true rfl⟩, g_in 698 (by decide +kernel) rfl, g_in 11 (by decide +kernel) rfl⟩
def mX3_readDeed : gm := (yX3_readDeed, cX3_readDeed, 3, none)
theorem YX3_readDeed : g_YV mX3_readDeed 2 := ⟨⟨g_in 756 (by decide +kernel) rfl, g_in 81 (by decide +kernel) rfl, by decide +kernel, by decide +kernel, Nat.le_of_ble_eq_true rfl⟩, g_in 755 (by decide +kernel) rfl, g_in 22 (by decide +kernel) rfl⟩
def mX3_expect : gm := (yX3_expect, cX3_expect, 2, none)
theorem YX3_expect : g_YV mX3_expect 1 := ⟨⟨g_in 764 (by decide +kernel) rfl, g_in 81 (by decide +kernel) rfl, by decide +kernel, by decide +kernel, Nat.le_of_ble_eq_true rfl⟩, g_in 763 (by decide +kernel) rfl, g_in 24 (by decide +kernel) rfl⟩
def mX3_readNumberOf : gm := (yX3_readNumberOf, cX3_readNumberOf, 4, (some .int))
theorem YX3_readNumberOf : g_YV mX3_readNumberOf 2 := ⟨⟨g_in 760 (by decide +kernel) rfl, g_in 81 (by decide +kernel) rfl, by decide +kernel, by decide +kernel, Nat.le_of_ble_eq_true rfl⟩, g_in 759 (by decide +kernel) rfl, g_in 23 (by decide +kernel) rfl⟩
def mX3_readLaw : gm := (yX3_readLaw, cX3_readLaw, 4, none)
theorem YX3_readLaw : g_YV mX3_readLaw 1 := ⟨⟨g_in 708 (by decide +kernel) rfl, g_in 81 (by decide +kernel) rfl, by decide +kernel, by decide +kernel, Nat.le_of_ble_eq_true rfl⟩, g_in 707 (by decide +kernel) rfl, g_in 13 (by decide +kernel) rfl⟩
def mX3_readOne : gm := (yX3_readOne, cX3_readOne, 2, none)
theorem YX3_readOne : g_YV mX3_readOne 1 := ⟨⟨g_in 712 (by decide +kernel) rfl, g_in 81 (by decide +kernel) rfl, by decide +kernel, by decide +kernel, Nat.le_of_ble_eq_true rfl⟩, g_in 711 (by decide +kernel) rfl, g_in 14 (by decide +kernel) rfl⟩
def mX3_readBetween : gm := (yX3_readBetween, cX3_readBetween, 3, none)
theorem YX3_readBetween : g_YV mX3_readBetween 1 := ⟨⟨g_in 734 (by decide +kernel) rfl, g_in 81 (by decide +kernel) rfl, by decide +kernel, by decide +kernel, Nat.le_of_ble_eq_true rfl⟩, g_in 733 (by decide +kernel) rfl, g_in 18 (by decide +kernel) rfl⟩
def mX3_isComparison : gm := (yX3_isComparison, cX3_isComparison, 1, (some .boolean))
theorem YX3_isComparison : g_YS mX3_isComparison 1 := ⟨⟨g_in 752 (by decide +kernel) rfl, g_in 81 (by decide +kernel) rfl, by decide +kernel, by decide +kernel, Nat.le_of_ble_eq_true rfl⟩, g_in 751 (by decide +kernel) rfl⟩
def mX3_isAheadOfAsk : gm := (yX3_isAheadOfAsk, cX3_isAheadOfAsk, 2, (some .boolean))
theorem YX3_isAheadOfAsk : g_YV mX3_isAheadOfAsk 0 := ⟨⟨g_in 730 (by decide +kernel) rfl, g_in 81 (by decide +kernel) rfl, by decide +kernel, by decide +kernel, Nat.le_of_ble_eq_true rfl⟩, g_in 729 (by decide +kernel) rfl, g_in 17 (by decide +kernel) rfl⟩
def mX3_openUp : gm := (yX3_openUp, cX3_openUp, 2, none)
theorem YX3_openUp : g_YV mX3_openUp 1 := ⟨⟨g_in 722 (by decide +kernel) rfl, g_in 81 (by decide +kernel) rfl, by decide +kernel, by decide +kernel, Nat.le_of_ble_eq_true rfl⟩, g_in 721 (by decide +kernel) rfl, g_in 15 (by decide +kernel) rfl⟩
def mX3_hold : gm := (yX3_hold, cX3_hold, 1, none)
theorem YX3_hold : g_YV mX3_hold 0 := ⟨⟨g_in 738 (by decide +kernel) rfl, g_in 81 (by decide +kernel) rfl, by decide +kernel, by decide +kernel, Nat.le_of_ble_eq_true rfl⟩, g_in 737 (by decide +kernel) rfl, g_in 19 (by decide +kernel) rfl⟩
def mX3_putWaiting : gm := (yX3_putWaiting, cX3_putWaiting, 2, none)
theorem YX3_putWaiting : g_YV mX3_putWaiting 1 := ⟨⟨g_in 726 (by decide +kernel) rfl, g_in 81 (by decide +kernel) rfl, by decide +kernel, by decide +kernel, Nat.le_of_ble_eq_true rfl⟩, g_in 725 (by decide +kernel) rfl, g_in 16 (by decide +kernel) rfl⟩
def mX3_dropWaiting : gm := (yX3_dropWaiting, cX3_dropWaiting, 2, none)
theorem YX3_dropWaiting : g_YV mX3_dropWaiting 0 := ⟨⟨g_in 749 (by decide +kernel) rfl, g_in 81 (by decide +kernel) rfl, by decide +kernel, by decide +kernel, Nat.le_of_ble_eq_true rfl⟩, g_in 748 (by decide +kernel) rfl, g_in 21 (by decide +kernel) rfl⟩
def mX3_release : gm := (yX3_release, cX3_release, 4, none)
theorem YX3_release : g_YV mX3_release 1 := ⟨⟨g_in 745 (by decide +kernel) rfl, g_in 81 (by decide +kernel) rfl, by decide +kernel, by decide +kernel, Nat.le_of_ble_eq_true rfl⟩, g_in 744 (by decide +kernel) rfl, g_in 20 (by decide +kernel) rfl⟩
def mX3_bindingOf : gm := (yX3_bindingOf, cX3_bindingOf, 1, (some .int))
theorem YX3_bindingOf : g_YS mX3_bindingOf 1 := ⟨⟨g_in 741 (by decide +kernel) rfl, g_in 81 (by decide +kernel) rfl, by decide +kernel, by decide +kernel, Nat.le_of_ble_eq_true rfl⟩, g_in 740 (by decide +kernel) rfl⟩
def mX4_init : gm := (yX4_init, cX4_init, 2, none)
theorem YX4_init : g_YI mX4_init 0 := ⟨⟨g_in 121 (by decide +kernel) rfl, g_in 79 (by decide +kernel) rfl, by decide +kernel, by decide +kernel, Nat.le_of_ble_eq_true rfl⟩, g_in 120 (by decide +kernel) rfl, rfl, rfl⟩
def mX4_copyFrom : gm := (yX4_copyFrom, cX4_copyFrom, 2, none)
theorem YX4_copyFrom : g_YV mX4_copyFrom 1 := ⟨⟨g_in 462 (by decide +kernel) rfl, g_in 79 (by decide +kernel) rfl, by decide +kernel, by decide +kernel, Nat.le_of_ble_eq_true rfl⟩, g_in 460 (by decide +kernel) rfl, g_in 461 (by decide +kernel) rfl⟩
def mX4_tilt : gm := (yX4_tilt, cX4_tilt, 1, (some .int))
theorem YX4_tilt : g_YV mX4_tilt 0 := ⟨⟨g_in 533 (by decide +kernel) rfl, g_in 79 (by decide +kernel) rfl, by decide +kernel, by decide +kernel, Nat.le_of_ble_eq_true rfl⟩, g_in 531 (by decide +kernel) rfl, g_in 532 (by decide +kernel) rfl⟩
def mX4_drawPot : gm := (yX4_drawPot, cX4_drawPot, 2, (some .int))
theorem YX4_drawPot : g_YV mX4_drawPot 0 := ⟨⟨g_in 546 (by decide +kernel) rfl, g_in 79 (by decide +kernel) rfl, by decide +kernel, by decide +kernel, Nat.le_of_ble_eq_true rfl⟩, g_in 544 (by decide +kernel) rfl, g_in 545 (by decide +kernel) rfl⟩
def mX4_eat : gm := (yX4_eat, cX4_eat, 5, none)
theorem YX4_eat : g_YV mX4_eat 3 := ⟨⟨g_in 521 (by decide +kernel) rfl, g_in 79 (by decide +kernel) rfl, by decide +kernel, by decide +kernel, Nat.le_of_ble_eq_true rfl⟩, g_in 519 (by decide +kernel) rfl, g_in 520 (by decide +kernel) rfl⟩
def mX4_giveBack : gm := (yX4_giveBack, cX4_giveBack, 5, none)
theorem YX4_giveBack : g_YV mX4_giveBack 3 := ⟨⟨g_in 841 (by decide +kernel) rfl, g_in 79 (by decide +kernel) rfl, by decide +kernel, by decide +kernel, Nat.le_of_ble_eq_true rfl⟩, g_in 839 (by decide +kernel) rfl, g_in 840 (by decide +kernel) rfl⟩
def mX5_init : gm := (yX5_init, cX5_init, 1, none)
theorem YX5_init : g_YI mX5_init 0 := ⟨⟨g_in 103 (by decide +kernel) rfl, g_in 76 (by decide +kernel) rfl, by decide +kernel, by decide +kernel, Nat.le_of_ble_eq_true rfl⟩, g_in 102 (by decide +kernel) rfl, rfl, rfl⟩
def mX5_leavesJust : gm := (yX5_leavesJust, cX5_leavesJust, 7, (some .boolean))
theorem YX5_leavesJust : g_YV mX5_leavesJust 3 := ⟨⟨g_in 870 (by decide +kernel) rfl, g_in 76 (by decide +kernel) rfl, by decide +kernel, by decide +kernel, Nat.le_of_ble_eq_true rfl⟩, g_in 868 (by decide +kernel) rfl, g_in 869 (by decide +kernel) rfl⟩
def mX5_callInBestOrder : gm := (yX5_callInBestOrder, cX5_callInBestOrder, 3, none)
theorem YX5_callInBestOrder : g_YV mX5_callInBestOrder 2 := ⟨⟨g_in 825 (by decide +kernel) rfl, g_in 76 (by decide +kernel) rfl, by decide +kernel, by decide +kernel, Nat.le_of_ble_eq_true rfl⟩, g_in 823 (by decide +kernel) rfl, g_in 824 (by decide +kernel) rfl⟩
def mX5_callRest : gm := (yX5_callRest, cX5_callRest, 6, none)
theorem YX5_callRest : g_YV mX5_callRest 3 := ⟨⟨g_in 830 (by decide +kernel) rfl, g_in 76 (by decide +kernel) rfl, by decide +kernel, by decide +kernel, Nat.le_of_ble_eq_true rfl⟩, g_in 829 (by decide +kernel) rfl, g_in 28 (by decide +kernel) rfl⟩
def mX5_seekAcquittal : gm := (yX5_seekAcquittal, cX5_seekAcquittal, 3, none)
theorem YX5_seekAcquittal : g_YV mX5_seekAcquittal 1 := ⟨⟨g_in 849 (by decide +kernel) rfl, g_in 76 (by decide +kernel) rfl, by decide +kernel, by decide +kernel, Nat.le_of_ble_eq_true rfl⟩, g_in 847 (by decide +kernel) rfl, g_in 848 (by decide +kernel) rfl⟩
def mX5_trySpoons : gm := (yX5_trySpoons, cX5_trySpoons, 7, none)
theorem YX5_trySpoons : g_YV mX5_trySpoons 2 := ⟨⟨g_in 854 (by decide +kernel) rfl, g_in 76 (by decide +kernel) rfl, by decide +kernel, by decide +kernel, Nat.le_of_ble_eq_true rfl⟩, g_in 853 (by decide +kernel) rfl, g_in 29 (by decide +kernel) rfl⟩
def mX5_keepFound : gm := (yX5_keepFound, cX5_keepFound, 2, none)
theorem YX5_keepFound : g_YV mX5_keepFound 1 := ⟨⟨g_in 862 (by decide +kernel) rfl, g_in 76 (by decide +kernel) rfl, by decide +kernel, by decide +kernel, Nat.le_of_ble_eq_true rfl⟩, g_in 861 (by decide +kernel) rfl, g_in 31 (by decide +kernel) rfl⟩
def mX5_swaps : gm := (yX5_swaps, cX5_swaps, 7, (some .boolean))
theorem YX5_swaps : g_YV mX5_swaps 3 := ⟨⟨g_in 858 (by decide +kernel) rfl, g_in 76 (by decide +kernel) rfl, by decide +kernel, by decide +kernel, Nat.le_of_ble_eq_true rfl⟩, g_in 857 (by decide +kernel) rfl, g_in 30 (by decide +kernel) rfl⟩
def mX6_init : gm := (yX6_init, cX6_init, 1, none)
theorem YX6_init : g_YI mX6_init 0 := ⟨⟨g_in 95 (by decide +kernel) rfl, g_in 75 (by decide +kernel) rfl, by decide +kernel, by decide +kernel, Nat.le_of_ble_eq_true rfl⟩, g_in 94 (by decide +kernel) rfl, rfl, rfl⟩
def mX6_pot : gm := (yX6_pot, cX6_pot, 4, (some .boolean))
theorem YX6_pot : g_YV mX6_pot 3 := ⟨⟨g_in 428 (by decide +kernel) rfl, g_in 75 (by decide +kernel) rfl, by decide +kernel, by decide +kernel, Nat.le_of_ble_eq_true rfl⟩, g_in 426 (by decide +kernel) rfl, g_in 427 (by decide +kernel) rfl⟩
def mX6_eater : gm := (yX6_eater, cX6_eater, 5, (some .int))
theorem YX6_eater : g_YV mX6_eater 3 := ⟨⟨g_in 442 (by decide +kernel) rfl, g_in 75 (by decide +kernel) rfl, by decide +kernel, by decide +kernel, Nat.le_of_ble_eq_true rfl⟩, g_in 440 (by decide +kernel) rfl, g_in 441 (by decide +kernel) rfl⟩
def mX6_seed : gm := (yX6_seed, cX6_seed, 2, (some .boolean))
theorem YX6_seed : g_YV mX6_seed 1 := ⟨⟨g_in 446 (by decide +kernel) rfl, g_in 75 (by decide +kernel) rfl, by decide +kernel, by decide +kernel, Nat.le_of_ble_eq_true rfl⟩, g_in 444 (by decide +kernel) rfl, g_in 445 (by decide +kernel) rfl⟩
def mX6_sit : gm := (yX6_sit, cX6_sit, 3, (some .boolean))
theorem YX6_sit : g_YV mX6_sit 2 := ⟨⟨g_in 450 (by decide +kernel) rfl, g_in 75 (by decide +kernel) rfl, by decide +kernel, by decide +kernel, Nat.le_of_ble_eq_true rfl⟩, g_in 448 (by decide +kernel) rfl, g_in 449 (by decide +kernel) rfl⟩
def mX6_spoon : gm := (yX6_spoon, cX6_spoon, 4, (some .int))
theorem YX6_spoon : g_YV mX6_spoon 2 := ⟨⟨g_in 469 (by decide +kernel) rfl, g_in 75 (by decide +kernel) rfl, by decide +kernel, by decide +kernel, Nat.le_of_ble_eq_true rfl⟩, g_in 467 (by decide +kernel) rfl, g_in 468 (by decide +kernel) rfl⟩
def mX6_judge : gm := (yX6_judge, cX6_judge, 3, (some .int))
theorem YX6_judge : g_YV mX6_judge 1 := ⟨⟨g_in 525 (by decide +kernel) rfl, g_in 75 (by decide +kernel) rfl, by decide +kernel, by decide +kernel, Nat.le_of_ble_eq_true rfl⟩, g_in 523 (by decide +kernel) rfl, g_in 524 (by decide +kernel) rfl⟩
def mX6_flies : gm := (yX6_flies, cX6_flies, 5, (some .int))
theorem YX6_flies : g_YV mX6_flies 1 := ⟨⟨g_in 542 (by decide +kernel) rfl, g_in 75 (by decide +kernel) rfl, by decide +kernel, by decide +kernel, Nat.le_of_ble_eq_true rfl⟩, g_in 540 (by decide +kernel) rfl, g_in 541 (by decide +kernel) rfl⟩
def mX6_feed : gm := (yX6_feed, cX6_feed, 6, (some .int))
theorem YX6_feed : g_YV mX6_feed 5 := ⟨⟨g_in 550 (by decide +kernel) rfl, g_in 75 (by decide +kernel) rfl, by decide +kernel, by decide +kernel, Nat.le_of_ble_eq_true rfl⟩, g_in 548 (by decide +kernel) rfl, g_in 549 (by decide +kernel) rfl⟩
def mX6_end : gm := (yX6_end, cX6_end, 2, (some .int))
theorem YX6_end : g_YV mX6_end 1 := ⟨⟨g_in 558 (by decide +kernel) rfl, g_in 75 (by decide +kernel) rfl, by decide +kernel, by decide +kernel, Nat.le_of_ble_eq_true rfl⟩, g_in 556 (by decide +kernel) rfl, g_in 557 (by decide +kernel) rfl⟩
def mX6_text : gm := (yX6_text, cX6_text, 2, (some .int))
theorem YX6_text : g_YV mX6_text 0 := ⟨⟨g_in 562 (by decide +kernel) rfl, g_in 75 (by decide +kernel) rfl, by decide +kernel, by decide +kernel, Nat.le_of_ble_eq_true rfl⟩, g_in 560 (by decide +kernel) rfl, g_in 561 (by decide +kernel) rfl⟩
def mX6_fault : gm := (yX6_fault, cX6_fault, 2, (some .int))
theorem YX6_fault : g_YV mX6_fault 1 := ⟨⟨g_in 769 (by decide +kernel) rfl, g_in 75 (by decide +kernel) rfl, by decide +kernel, by decide +kernel, Nat.le_of_ble_eq_true rfl⟩, g_in 767 (by decide +kernel) rfl, g_in 768 (by decide +kernel) rfl⟩
def mX6_by : gm := (yX6_by, cX6_by, 2, (some .boolean))
theorem YX6_by : g_YV mX6_by 1 := ⟨⟨g_in 773 (by decide +kernel) rfl, g_in 75 (by decide +kernel) rfl, by decide +kernel, by decide +kernel, Nat.le_of_ble_eq_true rfl⟩, g_in 771 (by decide +kernel) rfl, g_in 772 (by decide +kernel) rfl⟩
def mX6_played : gm := (yX6_played, cX6_played, 4, (some .int))
theorem YX6_played : g_YV mX6_played 1 := ⟨⟨g_in 781 (by decide +kernel) rfl, g_in 75 (by decide +kernel) rfl, by decide +kernel, by decide +kernel, Nat.le_of_ble_eq_true rfl⟩, g_in 779 (by decide +kernel) rfl, g_in 780 (by decide +kernel) rfl⟩
def mX6_undo : gm := (yX6_undo, cX6_undo, 2, (some .int))
theorem YX6_undo : g_YV mX6_undo 0 := ⟨⟨g_in 793 (by decide +kernel) rfl, g_in 75 (by decide +kernel) rfl, by decide +kernel, by decide +kernel, Nat.le_of_ble_eq_true rfl⟩, g_in 791 (by decide +kernel) rfl, g_in 792 (by decide +kernel) rfl⟩
def mX6_of : gm := (yX6_of, cX6_of, 3, (some .int))
theorem YX6_of : g_YV mX6_of 2 := ⟨⟨g_in 798 (by decide +kernel) rfl, g_in 75 (by decide +kernel) rfl, by decide +kernel, by decide +kernel, Nat.le_of_ble_eq_true rfl⟩, g_in 796 (by decide +kernel) rfl, g_in 797 (by decide +kernel) rfl⟩
def mX6_written : gm := (yX6_written, cX6_written, 3, (some .int))
theorem YX6_written : g_YV mX6_written 2 := ⟨⟨g_in 803 (by decide +kernel) rfl, g_in 75 (by decide +kernel) rfl, by decide +kernel, by decide +kernel, Nat.le_of_ble_eq_true rfl⟩, g_in 801 (by decide +kernel) rfl, g_in 802 (by decide +kernel) rfl⟩
def mX6_dent : gm := (yX6_dent, cX6_dent, 3, (some .int))
theorem YX6_dent : g_YV mX6_dent 2 := ⟨⟨g_in 807 (by decide +kernel) rfl, g_in 75 (by decide +kernel) rfl, by decide +kernel, by decide +kernel, Nat.le_of_ble_eq_true rfl⟩, g_in 805 (by decide +kernel) rfl, g_in 806 (by decide +kernel) rfl⟩
def mX6_called : gm := (yX6_called, cX6_called, 4, (some .int))
theorem YX6_called : g_YV mX6_called 3 := ⟨⟨g_in 811 (by decide +kernel) rfl, g_in 75 (by decide +kernel) rfl, by decide +kernel, by decide +kernel, Nat.le_of_ble_eq_true rfl⟩, g_in 809 (by decide +kernel) rfl, g_in 810 (by decide +kernel) rfl⟩
def mX6_acquitted : gm := (yX6_acquitted, cX6_acquitted, 4, (some .int))
theorem YX6_acquitted : g_YV mX6_acquitted 2 := ⟨⟨g_in 845 (by decide +kernel) rfl, g_in 75 (by decide +kernel) rfl, by decide +kernel, by decide +kernel, Nat.le_of_ble_eq_true rfl⟩, g_in 843 (by decide +kernel) rfl, g_in 844 (by decide +kernel) rfl⟩
def mX6_sets : gm := (yX6_sets, cX6_sets, 7, (some .int))
theorem YX6_sets : g_YV mX6_sets 4 := ⟨⟨g_in 866 (by decide +kernel) rfl, g_in 75 (by decide +kernel) rfl, by decide +kernel, by decide +kernel, Nat.le_of_ble_eq_true rfl⟩, g_in 864 (by decide +kernel) rfl, g_in 865 (by decide +kernel) rfl⟩
def mX6_tested : gm := (yX6_tested, cX6_tested, 4, (some .int))
theorem YX6_tested : g_YV mX6_tested 2 := ⟨⟨g_in 874 (by decide +kernel) rfl, g_in 75 (by decide +kernel) rfl, by decide +kernel, by decide +kernel, Nat.le_of_ble_eq_true rfl⟩, g_in 872 (by decide +kernel) rfl, g_in 873 (by decide +kernel) rfl⟩
def mX6_fits : gm := (yX6_fits, cX6_fits, 1, (some .int))
theorem YX6_fits : g_YV mX6_fits 0 := ⟨⟨g_in 881 (by decide +kernel) rfl, g_in 75 (by decide +kernel) rfl, by decide +kernel, by decide +kernel, Nat.le_of_ble_eq_true rfl⟩, g_in 879 (by decide +kernel) rfl, g_in 880 (by decide +kernel) rfl⟩
def mX6_next : gm := (yX6_next, cX6_next, 5, (some .int))
theorem YX6_next : g_YV mX6_next 0 := ⟨⟨g_in 885 (by decide +kernel) rfl, g_in 75 (by decide +kernel) rfl, by decide +kernel, by decide +kernel, Nat.le_of_ble_eq_true rfl⟩, g_in 883 (by decide +kernel) rfl, g_in 884 (by decide +kernel) rfl⟩
def mX6_hired : gm := (yX6_hired, cX6_hired, 6, (some .int))
theorem YX6_hired : g_YV mX6_hired 1 := ⟨⟨g_in 894 (by decide +kernel) rfl, g_in 75 (by decide +kernel) rfl, by decide +kernel, by decide +kernel, Nat.le_of_ble_eq_true rfl⟩, g_in 892 (by decide +kernel) rfl, g_in 893 (by decide +kernel) rfl⟩
def mX6_contrary : gm := (yX6_contrary, cX6_contrary, 3, (some .int))
theorem YX6_contrary : g_YV mX6_contrary 0 := ⟨⟨g_in 906 (by decide +kernel) rfl, g_in 75 (by decide +kernel) rfl, by decide +kernel, by decide +kernel, Nat.le_of_ble_eq_true rfl⟩, g_in 904 (by decide +kernel) rfl, g_in 905 (by decide +kernel) rfl⟩
def mX6_odds : gm := (yX6_odds, cX6_odds, 7, (some .long))
theorem YX6_odds : g_YV mX6_odds 3 := ⟨⟨g_in 914 (by decide +kernel) rfl, g_in 75 (by decide +kernel) rfl, by decide +kernel, by decide +kernel, Nat.le_of_ble_eq_true rfl⟩, g_in 912 (by decide +kernel) rfl, g_in 913 (by decide +kernel) rfl⟩
def mX6_tell : gm := (yX6_tell, cX6_tell, 3, (some .int))
theorem YX6_tell : g_YV mX6_tell 2 := ⟨⟨g_in 930 (by decide +kernel) rfl, g_in 75 (by decide +kernel) rfl, by decide +kernel, by decide +kernel, Nat.le_of_ble_eq_true rfl⟩, g_in 928 (by decide +kernel) rfl, g_in 929 (by decide +kernel) rfl⟩
def mX6_liars : gm := (yX6_liars, cX6_liars, 3, (some .int))
theorem YX6_liars : g_YV mX6_liars 0 := ⟨⟨g_in 938 (by decide +kernel) rfl, g_in 75 (by decide +kernel) rfl, by decide +kernel, by decide +kernel, Nat.le_of_ble_eq_true rfl⟩, g_in 936 (by decide +kernel) rfl, g_in 937 (by decide +kernel) rfl⟩
def mX6_inWhoseName : gm := (yX6_inWhoseName, cX6_inWhoseName, 4, (some .int))
theorem YX6_inWhoseName : g_YV mX6_inWhoseName 1 := ⟨⟨g_in 946 (by decide +kernel) rfl, g_in 75 (by decide +kernel) rfl, by decide +kernel, by decide +kernel, Nat.le_of_ble_eq_true rfl⟩, g_in 944 (by decide +kernel) rfl, g_in 945 (by decide +kernel) rfl⟩
def mX6_image : gm := (yX6_image, cX6_image, 1, (some .int))
theorem YX6_image : g_YV mX6_image 0 := ⟨⟨g_in 950 (by decide +kernel) rfl, g_in 75 (by decide +kernel) rfl, by decide +kernel, by decide +kernel, Nat.le_of_ble_eq_true rfl⟩, g_in 948 (by decide +kernel) rfl, g_in 949 (by decide +kernel) rfl⟩
def mX6_back : gm := (yX6_back, cX6_back, 1, (some .int))
theorem YX6_back : g_YV mX6_back 0 := ⟨⟨g_in 959 (by decide +kernel) rfl, g_in 75 (by decide +kernel) rfl, by decide +kernel, by decide +kernel, Nat.le_of_ble_eq_true rfl⟩, g_in 957 (by decide +kernel) rfl, g_in 958 (by decide +kernel) rfl⟩
def mX6_about : gm := (yX6_about, cX6_about, 2, (some .int))
theorem YX6_about : g_YV mX6_about 1 := ⟨⟨g_in 963 (by decide +kernel) rfl, g_in 75 (by decide +kernel) rfl, by decide +kernel, by decide +kernel, Nat.le_of_ble_eq_true rfl⟩, g_in 961 (by decide +kernel) rfl, g_in 962 (by decide +kernel) rfl⟩
def mX6_isSide : gm := (yX6_isSide, cX6_isSide, 1, (some .boolean))
theorem YX6_isSide : g_YS mX6_isSide 1 := ⟨⟨g_in 431 (by decide +kernel) rfl, g_in 75 (by decide +kernel) rfl, by decide +kernel, by decide +kernel, Nat.le_of_ble_eq_true rfl⟩, g_in 430 (by decide +kernel) rfl⟩
def mX6_isKind : gm := (yX6_isKind, cX6_isKind, 1, (some .boolean))
theorem YX6_isKind : g_YS mX6_isKind 1 := ⟨⟨g_in 434 (by decide +kernel) rfl, g_in 75 (by decide +kernel) rfl, by decide +kernel, by decide +kernel, Nat.le_of_ble_eq_true rfl⟩, g_in 433 (by decide +kernel) rfl⟩
def mX6_isEater : gm := (yX6_isEater, cX6_isEater, 2, (some .boolean))
theorem YX6_isEater : g_YV mX6_isEater 1 := ⟨⟨g_in 454 (by decide +kernel) rfl, g_in 75 (by decide +kernel) rfl, by decide +kernel, by decide +kernel, Nat.le_of_ble_eq_true rfl⟩, g_in 453 (by decide +kernel) rfl, g_in 1 (by decide +kernel) rfl⟩
def mX6_isText : gm := (yX6_isText, cX6_isText, 2, (some .boolean))
theorem YX6_isText : g_YV mX6_isText 1 := ⟨⟨g_in 777 (by decide +kernel) rfl, g_in 75 (by decide +kernel) rfl, by decide +kernel, by decide +kernel, Nat.le_of_ble_eq_true rfl⟩, g_in 776 (by decide +kernel) rfl, g_in 25 (by decide +kernel) rfl⟩
def mX6_forgetSought : gm := (yX6_forgetSought, cX6_forgetSought, 1, none)
theorem YX6_forgetSought : g_YV mX6_forgetSought 0 := ⟨⟨g_in 438 (by decide +kernel) rfl, g_in 75 (by decide +kernel) rfl, by decide +kernel, by decide +kernel, Nat.le_of_ble_eq_true rfl⟩, g_in 437 (by decide +kernel) rfl, g_in 0 (by decide +kernel) rfl⟩
def mX6_putBytes : gm := (yX6_putBytes, cX6_putBytes, 3, none)
theorem YX6_putBytes : g_YV mX6_putBytes 1 := ⟨⟨g_in 554 (by decide +kernel) rfl, g_in 75 (by decide +kernel) rfl, by decide +kernel, by decide +kernel, Nat.le_of_ble_eq_true rfl⟩, g_in 553 (by decide +kernel) rfl, g_in 6 (by decide +kernel) rfl⟩
def mX6_playClause : gm := (yX6_playClause, cX6_playClause, 5, (some .boolean))
theorem YX6_playClause : g_YV mX6_playClause 2 := ⟨⟨g_in 785 (by decide +kernel) rfl, g_in 75 (by decide +kernel) rfl, by decide +kernel, by decide +kernel, Nat.le_of_ble_eq_true rfl⟩, g_in 784 (by decide +kernel) rfl, g_in 26 (by decide +kernel) rfl⟩
def mX6_canBeCalled : gm := (yX6_canBeCalled, cX6_canBeCalled, 3, (some .boolean))
theorem YX6_canBeCalled : g_YV mX6_canBeCalled 1 := ⟨⟨g_in 815 (by decide +kernel) rfl, g_in 75 (by decide +kernel) rfl, by decide +kernel, by decide +kernel, Nat.le_of_ble_eq_true rfl⟩, g_in 814 (by decide +kernel) rfl, g_in 27 (by decide +kernel) rfl⟩
def mX6_hang : gm := (yX6_hang, cX6_hang, 1, (some .int))
theorem YX6_hang : g_YS mX6_hang 1 := ⟨⟨g_in 877 (by decide +kernel) rfl, g_in 75 (by decide +kernel) rfl, by decide +kernel, by decide +kernel, Nat.le_of_ble_eq_true rfl⟩, g_in 876 (by decide +kernel) rfl⟩
def mX6_mostAlike : gm := (yX6_mostAlike, cX6_mostAlike, 7, (some .int))
theorem YX6_mostAlike : g_YV mX6_mostAlike 1 := ⟨⟨g_in 889 (by decide +kernel) rfl, g_in 75 (by decide +kernel) rfl, by decide +kernel, by decide +kernel, Nat.le_of_ble_eq_true rfl⟩, g_in 888 (by decide +kernel) rfl, g_in 32 (by decide +kernel) rfl⟩
def mX6_priceOf : gm := (yX6_priceOf, cX6_priceOf, 4, (some .int))
theorem YX6_priceOf : g_YV mX6_priceOf 1 := ⟨⟨g_in 898 (by decide +kernel) rfl, g_in 75 (by decide +kernel) rfl, by decide +kernel, by decide +kernel, Nat.le_of_ble_eq_true rfl⟩, g_in 897 (by decide +kernel) rfl, g_in 33 (by decide +kernel) rfl⟩
def mX6_roomOf : gm := (yX6_roomOf, cX6_roomOf, 4, (some .int))
theorem YX6_roomOf : g_YV mX6_roomOf 1 := ⟨⟨g_in 902 (by decide +kernel) rfl, g_in 75 (by decide +kernel) rfl, by decide +kernel, by decide +kernel, Nat.le_of_ble_eq_true rfl⟩, g_in 901 (by decide +kernel) rfl, g_in 34 (by decide +kernel) rfl⟩
def mX6_waysTo : gm := (yX6_waysTo, cX6_waysTo, 11, (some .int))
theorem YX6_waysTo : g_YV mX6_waysTo 2 := ⟨⟨g_in 919 (by decide +kernel) rfl, g_in 75 (by decide +kernel) rfl, by decide +kernel, by decide +kernel, Nat.le_of_ble_eq_true rfl⟩, g_in 918 (by decide +kernel) rfl, g_in 35 (by decide +kernel) rfl⟩
def mX6_chosen : gm := (yX6_chosen, cX6_chosen, 2, (some .int))
theorem YX6_chosen : g_YS mX6_chosen 2 := ⟨⟨g_in 924 (by decide +kernel) rfl, g_in 75 (by decide +kernel) rfl, by decide +kernel, by decide +kernel, Nat.le_of_ble_eq_true rfl⟩, g_in 923 (by decide +kernel) rfl⟩
def mX7_init : gm := (yX7_init, cX7_init, 2, none)
theorem YX7_init : g_YI mX7_init 0 := ⟨⟨g_in 968 (by decide +kernel) rfl, g_in 82 (by decide +kernel) rfl, by decide +kernel, by decide +kernel, Nat.le_of_ble_eq_true rfl⟩, g_in 967 (by decide +kernel) rfl, rfl, rfl⟩
def mX7_in : gm := (yX7_in, cX7_in, 3, (some .boolean))
theorem YX7_in : g_YS mX7_in 3 := ⟨⟨g_in 1129 (by decide +kernel) rfl, g_in 82 (by decide +kernel) rfl, by decide +kernel, by decide +kernel, Nat.le_of_ble_eq_true rfl⟩, g_in 1128 (by decide +kernel) rfl⟩
def mX7_copies : gm := (yX7_copies, cX7_copies, 3, none)
theorem YX7_copies : g_YV mX7_copies 1 := ⟨⟨g_in 973 (by decide +kernel) rfl, g_in 82 (by decide +kernel) rfl, by decide +kernel, by decide +kernel, Nat.le_of_ble_eq_true rfl⟩, g_in 972 (by decide +kernel) rfl, g_in 36 (by decide +kernel) rfl⟩
def mX7_isEater : gm := (yX7_isEater, cX7_isEater, 2, (some .boolean))
theorem YX7_isEater : g_YV mX7_isEater 1 := ⟨⟨g_in 1298 (by decide +kernel) rfl, g_in 82 (by decide +kernel) rfl, by decide +kernel, by decide +kernel, Nat.le_of_ble_eq_true rfl⟩, g_in 1297 (by decide +kernel) rfl, g_in 59 (by decide +kernel) rfl⟩
def mX7_isOne : gm := (yX7_isOne, cX7_isOne, 1, (some .boolean))
theorem YX7_isOne : g_YS mX7_isOne 1 := ⟨⟨g_in 1126 (by decide +kernel) rfl, g_in 82 (by decide +kernel) rfl, by decide +kernel, by decide +kernel, Nat.le_of_ble_eq_true rfl⟩, g_in 1125 (by decide +kernel) rfl⟩
def mX7_pot : gm := (yX7_pot, cX7_pot, 4, (some .boolean))
theorem YX7_pot : g_YV mX7_pot 3 := ⟨⟨g_in 1123 (by decide +kernel) rfl, g_in 82 (by decide +kernel) rfl, by decide +kernel, by decide +kernel, Nat.le_of_ble_eq_true rfl⟩, g_in 1121 (by decide +kernel) rfl, g_in 1122 (by decide +kernel) rfl⟩
def mX7_eater : gm := (yX7_eater, cX7_eater, 6, (some .int))
theorem YX7_eater : g_YV mX7_eater 3 := ⟨⟨g_in 1133 (by decide +kernel) rfl, g_in 82 (by decide +kernel) rfl, by decide +kernel, by decide +kernel, Nat.le_of_ble_eq_true rfl⟩, g_in 1131 (by decide +kernel) rfl, g_in 1132 (by decide +kernel) rfl⟩
def mX7_seed : gm := (yX7_seed, cX7_seed, 2, (some .boolean))
theorem YX7_seed : g_YV mX7_seed 1 := ⟨⟨g_in 1137 (by decide +kernel) rfl, g_in 82 (by decide +kernel) rfl, by decide +kernel, by decide +kernel, Nat.le_of_ble_eq_true rfl⟩, g_in 1135 (by decide +kernel) rfl, g_in 1136 (by decide +kernel) rfl⟩
def mX7_keepsStep : gm := (yX7_keepsStep, cX7_keepsStep, 2, none)
theorem YX7_keepsStep : g_YV mX7_keepsStep 0 := ⟨⟨g_in 1302 (by decide +kernel) rfl, g_in 82 (by decide +kernel) rfl, by decide +kernel, by decide +kernel, Nat.le_of_ble_eq_true rfl⟩, g_in 1301 (by decide +kernel) rfl, g_in 60 (by decide +kernel) rfl⟩
def mX7_undo : gm := (yX7_undo, cX7_undo, 2, (some .int))
theorem YX7_undo : g_YV mX7_undo 0 := ⟨⟨g_in 1141 (by decide +kernel) rfl, g_in 82 (by decide +kernel) rfl, by decide +kernel, by decide +kernel, Nat.le_of_ble_eq_true rfl⟩, g_in 1139 (by decide +kernel) rfl, g_in 1140 (by decide +kernel) rfl⟩
def mX7_put : gm := (yX7_put, cX7_put, 3, none)
theorem YX7_put : g_YV mX7_put 1 := ⟨⟨g_in 1149 (by decide +kernel) rfl, g_in 82 (by decide +kernel) rfl, by decide +kernel, by decide +kernel, Nat.le_of_ble_eq_true rfl⟩, g_in 1148 (by decide +kernel) rfl, g_in 37 (by decide +kernel) rfl⟩
def mX7_feed : gm := (yX7_feed, cX7_feed, 6, (some .int))
theorem YX7_feed : g_YV mX7_feed 5 := ⟨⟨g_in 1145 (by decide +kernel) rfl, g_in 82 (by decide +kernel) rfl, by decide +kernel, by decide +kernel, Nat.le_of_ble_eq_true rfl⟩, g_in 1143 (by decide +kernel) rfl, g_in 1144 (by decide +kernel) rfl⟩
def mX7_end : gm := (yX7_end, cX7_end, 2, (some .int))
theorem YX7_end : g_YV mX7_end 1 := ⟨⟨g_in 1153 (by decide +kernel) rfl, g_in 82 (by decide +kernel) rfl, by decide +kernel, by decide +kernel, Nat.le_of_ble_eq_true rfl⟩, g_in 1151 (by decide +kernel) rfl, g_in 1152 (by decide +kernel) rfl⟩
def mX7_isLetter : gm := (yX7_isLetter, cX7_isLetter, 1, (some .boolean))
theorem YX7_isLetter : g_YS mX7_isLetter 1 := ⟨⟨g_in 1164 (by decide +kernel) rfl, g_in 82 (by decide +kernel) rfl, by decide +kernel, by decide +kernel, Nat.le_of_ble_eq_true rfl⟩, g_in 1163 (by decide +kernel) rfl⟩
def mX7_wordOf : gm := (yX7_wordOf, cX7_wordOf, 2, (some .int))
theorem YX7_wordOf : g_YS mX7_wordOf 1 := ⟨⟨g_in 1168 (by decide +kernel) rfl, g_in 82 (by decide +kernel) rfl, by decide +kernel, by decide +kernel, Nat.le_of_ble_eq_true rfl⟩, g_in 1167 (by decide +kernel) rfl⟩
def mX7_nextToken : gm := (yX7_nextToken, cX7_nextToken, 5, none)
theorem YX7_nextToken : g_YV mX7_nextToken 0 := ⟨⟨g_in 1161 (by decide +kernel) rfl, g_in 82 (by decide +kernel) rfl, by decide +kernel, by decide +kernel, Nat.le_of_ble_eq_true rfl⟩, g_in 1160 (by decide +kernel) rfl, g_in 38 (by decide +kernel) rfl⟩
def mX7_isSign : gm := (yX7_isSign, cX7_isSign, 2, (some .boolean))
theorem YX7_isSign : g_YV mX7_isSign 1 := ⟨⟨g_in 1236 (by decide +kernel) rfl, g_in 82 (by decide +kernel) rfl, by decide +kernel, by decide +kernel, Nat.le_of_ble_eq_true rfl⟩, g_in 1235 (by decide +kernel) rfl, g_in 48 (by decide +kernel) rfl⟩
def mX7_isWord : gm := (yX7_isWord, cX7_isWord, 2, (some .boolean))
theorem YX7_isWord : g_YV mX7_isWord 1 := ⟨⟨g_in 1201 (by decide +kernel) rfl, g_in 82 (by decide +kernel) rfl, by decide +kernel, by decide +kernel, Nat.le_of_ble_eq_true rfl⟩, g_in 1200 (by decide +kernel) rfl, g_in 40 (by decide +kernel) rfl⟩
def mX7_errs : gm := (yX7_errs, cX7_errs, 2, none)
theorem YX7_errs : g_YV mX7_errs 1 := ⟨⟨g_in 1209 (by decide +kernel) rfl, g_in 82 (by decide +kernel) rfl, by decide +kernel, by decide +kernel, Nat.le_of_ble_eq_true rfl⟩, g_in 1208 (by decide +kernel) rfl, g_in 42 (by decide +kernel) rfl⟩
def mX7_emits : gm := (yX7_emits, cX7_emits, 3, none)
theorem YX7_emits : g_YV mX7_emits 2 := ⟨⟨g_in 1221 (by decide +kernel) rfl, g_in 82 (by decide +kernel) rfl, by decide +kernel, by decide +kernel, Nat.le_of_ble_eq_true rfl⟩, g_in 1220 (by decide +kernel) rfl, g_in 45 (by decide +kernel) rfl⟩
def mX7_opensFrame : gm := (yX7_opensFrame, cX7_opensFrame, 2, none)
theorem YX7_opensFrame : g_YV mX7_opensFrame 1 := ⟨⟨g_in 1213 (by decide +kernel) rfl, g_in 82 (by decide +kernel) rfl, by decide +kernel, by decide +kernel, Nat.le_of_ble_eq_true rfl⟩, g_in 1212 (by decide +kernel) rfl, g_in 43 (by decide +kernel) rfl⟩
def mX7_top : gm := (yX7_top, cX7_top, 1, (some .int))
theorem YX7_top : g_YV mX7_top 0 := ⟨⟨g_in 1229 (by decide +kernel) rfl, g_in 82 (by decide +kernel) rfl, by decide +kernel, by decide +kernel, Nat.le_of_ble_eq_true rfl⟩, g_in 1228 (by decide +kernel) rfl, g_in 47 (by decide +kernel) rfl⟩
def mX7_opensSign : gm := (yX7_opensSign, cX7_opensSign, 2, (some .boolean))
theorem YX7_opensSign : g_YV mX7_opensSign 1 := ⟨⟨g_in 1205 (by decide +kernel) rfl, g_in 82 (by decide +kernel) rfl, by decide +kernel, by decide +kernel, Nat.le_of_ble_eq_true rfl⟩, g_in 1204 (by decide +kernel) rfl, g_in 41 (by decide +kernel) rfl⟩
def mX7_rank : gm := (yX7_rank, cX7_rank, 1, (some .int))
theorem YX7_rank : g_YS mX7_rank 1 := ⟨⟨g_in 1247 (by decide +kernel) rfl, g_in 82 (by decide +kernel) rfl, by decide +kernel, by decide +kernel, Nat.le_of_ble_eq_true rfl⟩, g_in 1246 (by decide +kernel) rfl⟩
def mX7_works : gm := (yX7_works, cX7_works, 2, none)
theorem YX7_works : g_YV mX7_works 1 := ⟨⟨g_in 1251 (by decide +kernel) rfl, g_in 82 (by decide +kernel) rfl, by decide +kernel, by decide +kernel, Nat.le_of_ble_eq_true rfl⟩, g_in 1250 (by decide +kernel) rfl, g_in 51 (by decide +kernel) rfl⟩
def mX7_waitsFor : gm := (yX7_waitsFor, cX7_waitsFor, 2, none)
theorem YX7_waitsFor : g_YV mX7_waitsFor 1 := ⟨⟨g_in 1244 (by decide +kernel) rfl, g_in 82 (by decide +kernel) rfl, by decide +kernel, by decide +kernel, Nat.le_of_ble_eq_true rfl⟩, g_in 1243 (by decide +kernel) rfl, g_in 50 (by decide +kernel) rfl⟩
def mX7_asks : gm := (yX7_asks, cX7_asks, 2, none)
theorem YX7_asks : g_YV mX7_asks 0 := ⟨⟨g_in 1197 (by decide +kernel) rfl, g_in 82 (by decide +kernel) rfl, by decide +kernel, by decide +kernel, Nat.le_of_ble_eq_true rfl⟩, g_in 1196 (by decide +kernel) rfl, g_in 39 (by decide +kernel) rfl⟩
def mX7_mayName : gm := (yX7_mayName, cX7_mayName, 2, (some .boolean))
theorem YX7_mayName : g_YS mX7_mayName 2 := ⟨⟨g_in 1232 (by decide +kernel) rfl, g_in 82 (by decide +kernel) rfl, by decide +kernel, by decide +kernel, Nat.le_of_ble_eq_true rfl⟩, g_in 1231 (by decide +kernel) rfl⟩
def mX7_begins : gm := (yX7_begins, cX7_begins, 2, none)
theorem YX7_begins : g_YV mX7_begins 0 := ⟨⟨g_in 1217 (by decide +kernel) rfl, g_in 82 (by decide +kernel) rfl, by decide +kernel, by decide +kernel, Nat.le_of_ble_eq_true rfl⟩, g_in 1216 (by decide +kernel) rfl, g_in 44 (by decide +kernel) rfl⟩
def mX7_oneIsOver : gm := (yX7_oneIsOver, cX7_oneIsOver, 1, none)
theorem YX7_oneIsOver : g_YV mX7_oneIsOver 0 := ⟨⟨g_in 1225 (by decide +kernel) rfl, g_in 82 (by decide +kernel) rfl, by decide +kernel, by decide +kernel, Nat.le_of_ble_eq_true rfl⟩, g_in 1224 (by decide +kernel) rfl, g_in 46 (by decide +kernel) rfl⟩
def mX7_askIsOver : gm := (yX7_askIsOver, cX7_askIsOver, 1, none)
theorem YX7_askIsOver : g_YV mX7_askIsOver 0 := ⟨⟨g_in 1258 (by decide +kernel) rfl, g_in 82 (by decide +kernel) rfl, by decide +kernel, by decide +kernel, Nat.le_of_ble_eq_true rfl⟩, g_in 1257 (by decide +kernel) rfl, g_in 52 (by decide +kernel) rfl⟩
def mX7_isAsking : gm := (yX7_isAsking, cX7_isAsking, 1, (some .boolean))
theorem YX7_isAsking : g_YS mX7_isAsking 1 := ⟨⟨g_in 1254 (by decide +kernel) rfl, g_in 82 (by decide +kernel) rfl, by decide +kernel, by decide +kernel, Nat.le_of_ble_eq_true rfl⟩, g_in 1253 (by decide +kernel) rfl⟩
def mX7_goesOn : gm := (yX7_goesOn, cX7_goesOn, 3, none)
theorem YX7_goesOn : g_YV mX7_goesOn 0 := ⟨⟨g_in 1240 (by decide +kernel) rfl, g_in 82 (by decide +kernel) rfl, by decide +kernel, by decide +kernel, Nat.le_of_ble_eq_true rfl⟩, g_in 1239 (by decide +kernel) rfl, g_in 49 (by decide +kernel) rfl⟩
def mX7_asksOn : gm := (yX7_asksOn, cX7_asksOn, 1, none)
theorem YX7_asksOn : g_YV mX7_asksOn 0 := ⟨⟨g_in 1266 (by decide +kernel) rfl, g_in 82 (by decide +kernel) rfl, by decide +kernel, by decide +kernel, Nat.le_of_ble_eq_true rfl⟩, g_in 1265 (by decide +kernel) rfl, g_in 54 (by decide +kernel) rfl⟩
def mX7_clauseIsOver : gm := (yX7_clauseIsOver, cX7_clauseIsOver, 1, none)
theorem YX7_clauseIsOver : g_YV mX7_clauseIsOver 0 := ⟨⟨g_in 1262 (by decide +kernel) rfl, g_in 82 (by decide +kernel) rfl, by decide +kernel, by decide +kernel, Nat.le_of_ble_eq_true rfl⟩, g_in 1261 (by decide +kernel) rfl, g_in 53 (by decide +kernel) rfl⟩
def mX7_number : gm := (yX7_number, cX7_number, 4, (some .int))
theorem YX7_number : g_YV mX7_number 2 := ⟨⟨g_in 1278 (by decide +kernel) rfl, g_in 82 (by decide +kernel) rfl, by decide +kernel, by decide +kernel, Nat.le_of_ble_eq_true rfl⟩, g_in 1277 (by decide +kernel) rfl, g_in 57 (by decide +kernel) rfl⟩
def mX7_wasTold : gm := (yX7_wasTold, cX7_wasTold, 4, (some .boolean))
theorem YX7_wasTold : g_YV mX7_wasTold 1 := ⟨⟨g_in 1274 (by decide +kernel) rfl, g_in 82 (by decide +kernel) rfl, by decide +kernel, by decide +kernel, Nat.le_of_ble_eq_true rfl⟩, g_in 1273 (by decide +kernel) rfl, g_in 56 (by decide +kernel) rfl⟩
def mX7_wants : gm := (yX7_wants, cX7_wants, 2, none)
theorem YX7_wants : g_YV mX7_wants 1 := ⟨⟨g_in 1282 (by decide +kernel) rfl, g_in 82 (by decide +kernel) rfl, by decide +kernel, by decide +kernel, Nat.le_of_ble_eq_true rfl⟩, g_in 1281 (by decide +kernel) rfl, g_in 58 (by decide +kernel) rfl⟩
def mX7_clause : gm := (yX7_clause, cX7_clause, 1, none)
theorem YX7_clause : g_YV mX7_clause 0 := ⟨⟨g_in 1270 (by decide +kernel) rfl, g_in 82 (by decide +kernel) rfl, by decide +kernel, by decide +kernel, Nat.le_of_ble_eq_true rfl⟩, g_in 1269 (by decide +kernel) rfl, g_in 55 (by decide +kernel) rfl⟩
def mX7_text : gm := (yX7_text, cX7_text, 3, (some .int))
theorem YX7_text : g_YV mX7_text 0 := ⟨⟨g_in 1157 (by decide +kernel) rfl, g_in 82 (by decide +kernel) rfl, by decide +kernel, by decide +kernel, Nat.le_of_ble_eq_true rfl⟩, g_in 1155 (by decide +kernel) rfl, g_in 1156 (by decide +kernel) rfl⟩
def mX7_fault : gm := (yX7_fault, cX7_fault, 2, (some .int))
theorem YX7_fault : g_YV mX7_fault 1 := ⟨⟨g_in 1286 (by decide +kernel) rfl, g_in 82 (by decide +kernel) rfl, by decide +kernel, by decide +kernel, Nat.le_of_ble_eq_true rfl⟩, g_in 1284 (by decide +kernel) rfl, g_in 1285 (by decide +kernel) rfl⟩
def mX7_bound : gm := (yX7_bound, cX7_bound, 2, (some .long))
theorem YX7_bound : g_YS mX7_bound 1 := ⟨⟨g_in 1336 (by decide +kernel) rfl, g_in 82 (by decide +kernel) rfl, by decide +kernel, by decide +kernel, Nat.le_of_ble_eq_true rfl⟩, g_in 1335 (by decide +kernel) rfl⟩
def mX7_worked : gm := (yX7_worked, cX7_worked, 5, (some .long))
theorem YX7_worked : g_YS mX7_worked 3 := ⟨⟨g_in 1333 (by decide +kernel) rfl, g_in 82 (by decide +kernel) rfl, by decide +kernel, by decide +kernel, Nat.le_of_ble_eq_true rfl⟩, g_in 1332 (by decide +kernel) rfl⟩
def mX7_saysOf : gm := (yX7_saysOf, cX7_saysOf, 5, (some .long))
theorem YX7_saysOf : g_YV mX7_saysOf 1 := ⟨⟨g_in 1330 (by decide +kernel) rfl, g_in 82 (by decide +kernel) rfl, by decide +kernel, by decide +kernel, Nat.le_of_ble_eq_true rfl⟩, g_in 1329 (by decide +kernel) rfl, g_in 66 (by decide +kernel) rfl⟩
def mX7_by : gm := (yX7_by, cX7_by, 2, (some .boolean))
theorem YX7_by : g_YV mX7_by 1 := ⟨⟨g_in 1290 (by decide +kernel) rfl, g_in 82 (by decide +kernel) rfl, by decide +kernel, by decide +kernel, Nat.le_of_ble_eq_true rfl⟩, g_in 1288 (by decide +kernel) rfl, g_in 1289 (by decide +kernel) rfl⟩
def mX7_ordersOf : gm := (yX7_ordersOf, cX7_ordersOf, 5, (some .int))
theorem YX7_ordersOf : g_YV mX7_ordersOf 1 := ⟨⟨g_in 1322 (by decide +kernel) rfl, g_in 82 (by decide +kernel) rfl, by decide +kernel, by decide +kernel, Nat.le_of_ble_eq_true rfl⟩, g_in 1321 (by decide +kernel) rfl, g_in 64 (by decide +kernel) rfl⟩
def mX7_laysWorld : gm := (yX7_laysWorld, cX7_laysWorld, 2, none)
theorem YX7_laysWorld : g_YV mX7_laysWorld 0 := ⟨⟨g_in 1310 (by decide +kernel) rfl, g_in 82 (by decide +kernel) rfl, by decide +kernel, by decide +kernel, Nat.le_of_ble_eq_true rfl⟩, g_in 1309 (by decide +kernel) rfl, g_in 61 (by decide +kernel) rfl⟩
def mX7_held : gm := (yX7_held, cX7_held, 4, (some .int))
theorem YX7_held : g_YS mX7_held 3 := ⟨⟨g_in 1341 (by decide +kernel) rfl, g_in 82 (by decide +kernel) rfl, by decide +kernel, by decide +kernel, Nat.le_of_ble_eq_true rfl⟩, g_in 1340 (by decide +kernel) rfl⟩
def mX7_least : gm := (yX7_least, cX7_least, 2, (some .int))
theorem YX7_least : g_YS mX7_least 2 := ⟨⟨g_in 1344 (by decide +kernel) rfl, g_in 82 (by decide +kernel) rfl, by decide +kernel, by decide +kernel, Nat.le_of_ble_eq_true rfl⟩, g_in 1343 (by decide +kernel) rfl⟩
def mX7_names : gm := (yX7_names, cX7_names, 2, none)
theorem YX7_names : g_YV mX7_names 1 := ⟨⟨g_in 1326 (by decide +kernel) rfl, g_in 82 (by decide +kernel) rfl, by decide +kernel, by decide +kernel, Nat.le_of_ble_eq_true rfl⟩, g_in 1325 (by decide +kernel) rfl, g_in 65 (by decide +kernel) rfl⟩
def mX7_stillHolds : gm := (yX7_stillHolds, cX7_stillHolds, 4, (some .int))
theorem YX7_stillHolds : g_YV mX7_stillHolds 1 := ⟨⟨g_in 1318 (by decide +kernel) rfl, g_in 82 (by decide +kernel) rfl, by decide +kernel, by decide +kernel, Nat.le_of_ble_eq_true rfl⟩, g_in 1317 (by decide +kernel) rfl, g_in 63 (by decide +kernel) rfl⟩
def mX7_spoonOf : gm := (yX7_spoonOf, cX7_spoonOf, 8, (some .int))
theorem YX7_spoonOf : g_YV mX7_spoonOf 2 := ⟨⟨g_in 1314 (by decide +kernel) rfl, g_in 82 (by decide +kernel) rfl, by decide +kernel, by decide +kernel, Nat.le_of_ble_eq_true rfl⟩, g_in 1313 (by decide +kernel) rfl, g_in 62 (by decide +kernel) rfl⟩
def mX7_eats : gm := (yX7_eats, cX7_eats, 4, (some .int))
theorem YX7_eats : g_YV mX7_eats 2 := ⟨⟨g_in 1399 (by decide +kernel) rfl, g_in 82 (by decide +kernel) rfl, by decide +kernel, by decide +kernel, Nat.le_of_ble_eq_true rfl⟩, g_in 1398 (by decide +kernel) rfl, g_in 71 (by decide +kernel) rfl⟩
def mX7_tilt : gm := (yX7_tilt, cX7_tilt, 1, (some .int))
theorem YX7_tilt : g_YV mX7_tilt 0 := ⟨⟨g_in 1356 (by decide +kernel) rfl, g_in 82 (by decide +kernel) rfl, by decide +kernel, by decide +kernel, Nat.le_of_ble_eq_true rfl⟩, g_in 1355 (by decide +kernel) rfl, g_in 68 (by decide +kernel) rfl⟩
def mX7_isGuilty : gm := (yX7_isGuilty, cX7_isGuilty, 4, (some .boolean))
theorem YX7_isGuilty : g_YV mX7_isGuilty 1 := ⟨⟨g_in 1352 (by decide +kernel) rfl, g_in 82 (by decide +kernel) rfl, by decide +kernel, by decide +kernel, Nat.le_of_ble_eq_true rfl⟩, g_in 1351 (by decide +kernel) rfl, g_in 67 (by decide +kernel) rfl⟩
def mX7_sit : gm := (yX7_sit, cX7_sit, 3, (some .boolean))
theorem YX7_sit : g_YV mX7_sit 2 := ⟨⟨g_in 1294 (by decide +kernel) rfl, g_in 82 (by decide +kernel) rfl, by decide +kernel, by decide +kernel, Nat.le_of_ble_eq_true rfl⟩, g_in 1292 (by decide +kernel) rfl, g_in 1293 (by decide +kernel) rfl⟩
def mX7_spoon : gm := (yX7_spoon, cX7_spoon, 6, (some .int))
theorem YX7_spoon : g_YV mX7_spoon 2 := ⟨⟨g_in 1306 (by decide +kernel) rfl, g_in 82 (by decide +kernel) rfl, by decide +kernel, by decide +kernel, Nat.le_of_ble_eq_true rfl⟩, g_in 1304 (by decide +kernel) rfl, g_in 1305 (by decide +kernel) rfl⟩
def mX7_judge : gm := (yX7_judge, cX7_judge, 4, (some .int))
theorem YX7_judge : g_YV mX7_judge 1 := ⟨⟨g_in 1348 (by decide +kernel) rfl, g_in 82 (by decide +kernel) rfl, by decide +kernel, by decide +kernel, Nat.le_of_ble_eq_true rfl⟩, g_in 1346 (by decide +kernel) rfl, g_in 1347 (by decide +kernel) rfl⟩
def mX7_draw : gm := (yX7_draw, cX7_draw, 3, (some .int))
theorem YX7_draw : g_YV mX7_draw 1 := ⟨⟨g_in 1364 (by decide +kernel) rfl, g_in 82 (by decide +kernel) rfl, by decide +kernel, by decide +kernel, Nat.le_of_ble_eq_true rfl⟩, g_in 1363 (by decide +kernel) rfl, g_in 69 (by decide +kernel) rfl⟩
def mX7_flies : gm := (yX7_flies, cX7_flies, 5, (some .int))
theorem YX7_flies : g_YV mX7_flies 1 := ⟨⟨g_in 1360 (by decide +kernel) rfl, g_in 82 (by decide +kernel) rfl, by decide +kernel, by decide +kernel, Nat.le_of_ble_eq_true rfl⟩, g_in 1358 (by decide +kernel) rfl, g_in 1359 (by decide +kernel) rfl⟩
def mX7_played : gm := (yX7_played, cX7_played, 5, (some .int))
theorem YX7_played : g_YV mX7_played 1 := ⟨⟨g_in 1368 (by decide +kernel) rfl, g_in 82 (by decide +kernel) rfl, by decide +kernel, by decide +kernel, Nat.le_of_ble_eq_true rfl⟩, g_in 1366 (by decide +kernel) rfl, g_in 1367 (by decide +kernel) rfl⟩
def mX7_of : gm := (yX7_of, cX7_of, 3, (some .int))
theorem YX7_of : g_YV mX7_of 2 := ⟨⟨g_in 1376 (by decide +kernel) rfl, g_in 82 (by decide +kernel) rfl, by decide +kernel, by decide +kernel, Nat.le_of_ble_eq_true rfl⟩, g_in 1374 (by decide +kernel) rfl, g_in 1375 (by decide +kernel) rfl⟩
def mX7_written : gm := (yX7_written, cX7_written, 3, (some .int))
theorem YX7_written : g_YV mX7_written 2 := ⟨⟨g_in 1380 (by decide +kernel) rfl, g_in 82 (by decide +kernel) rfl, by decide +kernel, by decide +kernel, Nat.le_of_ble_eq_true rfl⟩, g_in 1378 (by decide +kernel) rfl, g_in 1379 (by decide +kernel) rfl⟩
def mX7_dent : gm := (yX7_dent, cX7_dent, 3, (some .int))
theorem YX7_dent : g_YV mX7_dent 2 := ⟨⟨g_in 1384 (by decide +kernel) rfl, g_in 82 (by decide +kernel) rfl, by decide +kernel, by decide +kernel, Nat.le_of_ble_eq_true rfl⟩, g_in 1382 (by decide +kernel) rfl, g_in 1383 (by decide +kernel) rfl⟩
def mX7_rows : gm := (yX7_rows, cX7_rows, 3, (some .int))
theorem YX7_rows : g_YS mX7_rows 1 := ⟨⟨g_in 1391 (by decide +kernel) rfl, g_in 82 (by decide +kernel) rfl, by decide +kernel, by decide +kernel, Nat.le_of_ble_eq_true rfl⟩, g_in 1390 (by decide +kernel) rfl⟩
def mX7_laysOrder : gm := (yX7_laysOrder, cX7_laysOrder, 8, none)
theorem YX7_laysOrder : g_YV mX7_laysOrder 2 := ⟨⟨g_in 1395 (by decide +kernel) rfl, g_in 82 (by decide +kernel) rfl, by decide +kernel, by decide +kernel, Nat.le_of_ble_eq_true rfl⟩, g_in 1394 (by decide +kernel) rfl, g_in 70 (by decide +kernel) rfl⟩
def mX7_size : gm := (yX7_size, cX7_size, 1, (some .int))
theorem YX7_size : g_YS mX7_size 1 := ⟨⟨g_in 1402 (by decide +kernel) rfl, g_in 82 (by decide +kernel) rfl, by decide +kernel, by decide +kernel, Nat.le_of_ble_eq_true rfl⟩, g_in 1401 (by decide +kernel) rfl⟩
def mX7_called : gm := (yX7_called, cX7_called, 10, (some .int))
theorem YX7_called : g_YV mX7_called 3 := ⟨⟨g_in 1388 (by decide +kernel) rfl, g_in 82 (by decide +kernel) rfl, by decide +kernel, by decide +kernel, Nat.le_of_ble_eq_true rfl⟩, g_in 1386 (by decide +kernel) rfl, g_in 1387 (by decide +kernel) rfl⟩
def mX7_acquits : gm := (yX7_acquits, cX7_acquits, 10, (some .boolean))
theorem YX7_acquits : g_YV mX7_acquits 2 := ⟨⟨g_in 1410 (by decide +kernel) rfl, g_in 82 (by decide +kernel) rfl, by decide +kernel, by decide +kernel, Nat.le_of_ble_eq_true rfl⟩, g_in 1409 (by decide +kernel) rfl, g_in 72 (by decide +kernel) rfl⟩
def mX7_acquitted : gm := (yX7_acquitted, cX7_acquitted, 4, (some .int))
theorem YX7_acquitted : g_YV mX7_acquitted 2 := ⟨⟨g_in 1406 (by decide +kernel) rfl, g_in 82 (by decide +kernel) rfl, by decide +kernel, by decide +kernel, Nat.le_of_ble_eq_true rfl⟩, g_in 1404 (by decide +kernel) rfl, g_in 1405 (by decide +kernel) rfl⟩
def mX7_sets : gm := (yX7_sets, cX7_sets, 9, (some .int))
theorem YX7_sets : g_YV mX7_sets 4 := ⟨⟨g_in 1414 (by decide +kernel) rfl, g_in 82 (by decide +kernel) rfl, by decide +kernel, by decide +kernel, Nat.le_of_ble_eq_true rfl⟩, g_in 1412 (by decide +kernel) rfl, g_in 1413 (by decide +kernel) rfl⟩
def mX7_tested : gm := (yX7_tested, cX7_tested, 3, (some .int))
theorem YX7_tested : g_YV mX7_tested 2 := ⟨⟨g_in 1418 (by decide +kernel) rfl, g_in 82 (by decide +kernel) rfl, by decide +kernel, by decide +kernel, Nat.le_of_ble_eq_true rfl⟩, g_in 1416 (by decide +kernel) rfl, g_in 1417 (by decide +kernel) rfl⟩
def mX7_hangs : gm := (yX7_hangs, cX7_hangs, 2, (some .int))
theorem YX7_hangs : g_YS mX7_hangs 2 := ⟨⟨g_in 1425 (by decide +kernel) rfl, g_in 82 (by decide +kernel) rfl, by decide +kernel, by decide +kernel, Nat.le_of_ble_eq_true rfl⟩, g_in 1424 (by decide +kernel) rfl⟩
def mX7_fits : gm := (yX7_fits, cX7_fits, 5, (some .int))
theorem YX7_fits : g_YV mX7_fits 0 := ⟨⟨g_in 1422 (by decide +kernel) rfl, g_in 82 (by decide +kernel) rfl, by decide +kernel, by decide +kernel, Nat.le_of_ble_eq_true rfl⟩, g_in 1420 (by decide +kernel) rfl, g_in 1421 (by decide +kernel) rfl⟩
def mX7_mostAlike : gm := (yX7_mostAlike, cX7_mostAlike, 6, (some .int))
theorem YX7_mostAlike : g_YS mX7_mostAlike 2 := ⟨⟨g_in 1433 (by decide +kernel) rfl, g_in 82 (by decide +kernel) rfl, by decide +kernel, by decide +kernel, Nat.le_of_ble_eq_true rfl⟩, g_in 1432 (by decide +kernel) rfl⟩
def mX7_next : gm := (yX7_next, cX7_next, 6, (some .int))
theorem YX7_next : g_YV mX7_next 0 := ⟨⟨g_in 1429 (by decide +kernel) rfl, g_in 82 (by decide +kernel) rfl, by decide +kernel, by decide +kernel, Nat.le_of_ble_eq_true rfl⟩, g_in 1427 (by decide +kernel) rfl, g_in 1428 (by decide +kernel) rfl⟩
def mX7_hired : gm := (yX7_hired, cX7_hired, 10, (some .int))
theorem YX7_hired : g_YV mX7_hired 1 := ⟨⟨g_in 1437 (by decide +kernel) rfl, g_in 82 (by decide +kernel) rfl, by decide +kernel, by decide +kernel, Nat.le_of_ble_eq_true rfl⟩, g_in 1435 (by decide +kernel) rfl, g_in 1436 (by decide +kernel) rfl⟩
def mX7_contrary : gm := (yX7_contrary, cX7_contrary, 5, (some .int))
theorem YX7_contrary : g_YV mX7_contrary 0 := ⟨⟨g_in 1441 (by decide +kernel) rfl, g_in 82 (by decide +kernel) rfl, by decide +kernel, by decide +kernel, Nat.le_of_ble_eq_true rfl⟩, g_in 1439 (by decide +kernel) rfl, g_in 1440 (by decide +kernel) rfl⟩
def mX7_common : gm := (yX7_common, cX7_common, 10, (some .long))
theorem YX7_common : g_YS mX7_common 2 := ⟨⟨g_in 1449 (by decide +kernel) rfl, g_in 82 (by decide +kernel) rfl, by decide +kernel, by decide +kernel, Nat.le_of_ble_eq_true rfl⟩, g_in 1448 (by decide +kernel) rfl⟩
def mX7_odds : gm := (yX7_odds, cX7_odds, 9, (some .long))
theorem YX7_odds : g_YV mX7_odds 3 := ⟨⟨g_in 1445 (by decide +kernel) rfl, g_in 82 (by decide +kernel) rfl, by decide +kernel, by decide +kernel, Nat.le_of_ble_eq_true rfl⟩, g_in 1443 (by decide +kernel) rfl, g_in 1444 (by decide +kernel) rfl⟩
def mX7_tell : gm := (yX7_tell, cX7_tell, 3, (some .int))
theorem YX7_tell : g_YV mX7_tell 2 := ⟨⟨g_in 1453 (by decide +kernel) rfl, g_in 82 (by decide +kernel) rfl, by decide +kernel, by decide +kernel, Nat.le_of_ble_eq_true rfl⟩, g_in 1451 (by decide +kernel) rfl, g_in 1452 (by decide +kernel) rfl⟩
def mX7_toldMore : gm := (yX7_toldMore, cX7_toldMore, 4, (some .int))
theorem YX7_toldMore : g_YV mX7_toldMore 1 := ⟨⟨g_in 1461 (by decide +kernel) rfl, g_in 82 (by decide +kernel) rfl, by decide +kernel, by decide +kernel, Nat.le_of_ble_eq_true rfl⟩, g_in 1460 (by decide +kernel) rfl, g_in 73 (by decide +kernel) rfl⟩
def mX7_liars : gm := (yX7_liars, cX7_liars, 3, (some .int))
theorem YX7_liars : g_YV mX7_liars 0 := ⟨⟨g_in 1457 (by decide +kernel) rfl, g_in 82 (by decide +kernel) rfl, by decide +kernel, by decide +kernel, Nat.le_of_ble_eq_true rfl⟩, g_in 1455 (by decide +kernel) rfl, g_in 1456 (by decide +kernel) rfl⟩
def mX7_inWhoseName : gm := (yX7_inWhoseName, cX7_inWhoseName, 3, (some .int))
theorem YX7_inWhoseName : g_YV mX7_inWhoseName 1 := ⟨⟨g_in 1465 (by decide +kernel) rfl, g_in 82 (by decide +kernel) rfl, by decide +kernel, by decide +kernel, Nat.le_of_ble_eq_true rfl⟩, g_in 1463 (by decide +kernel) rfl, g_in 1464 (by decide +kernel) rfl⟩
def mX7_image : gm := (yX7_image, cX7_image, 1, (some .int))
theorem YX7_image : g_YV mX7_image 0 := ⟨⟨g_in 1469 (by decide +kernel) rfl, g_in 82 (by decide +kernel) rfl, by decide +kernel, by decide +kernel, Nat.le_of_ble_eq_true rfl⟩, g_in 1467 (by decide +kernel) rfl, g_in 1468 (by decide +kernel) rfl⟩
def mX7_back : gm := (yX7_back, cX7_back, 1, (some .int))
theorem YX7_back : g_YV mX7_back 0 := ⟨⟨g_in 1473 (by decide +kernel) rfl, g_in 82 (by decide +kernel) rfl, by decide +kernel, by decide +kernel, Nat.le_of_ble_eq_true rfl⟩, g_in 1471 (by decide +kernel) rfl, g_in 1472 (by decide +kernel) rfl⟩
def mX7_about : gm := (yX7_about, cX7_about, 2, (some .int))
theorem YX7_about : g_YV mX7_about 1 := ⟨⟨g_in 1477 (by decide +kernel) rfl, g_in 82 (by decide +kernel) rfl, by decide +kernel, by decide +kernel, Nat.le_of_ble_eq_true rfl⟩, g_in 1475 (by decide +kernel) rfl, g_in 1476 (by decide +kernel) rfl⟩
def mJ11_isValidCodePoint_9a6ad : gm := (yJ11_isValidCodePoint_9a6ad, cJ11_isValidCodePoint_9a6ad, 2, (some .boolean))
theorem YJ11_isValidCodePoint_9a6ad : g_YS mJ11_isValidCodePoint_9a6ad 1 := ⟨⟨g_in 687 (by decide +kernel) rfl, g_in 89 (by decide +kernel) rfl, by decide +kernel, by decide +kernel, Nat.le_of_ble_eq_true rfl⟩, g_in 686 (by decide +kernel) rfl⟩
def mJ11_highSurrogate_5068e : gm := (yJ11_highSurrogate_5068e, cJ11_highSurrogate_5068e, 1, (some .char))
theorem YJ11_highSurrogate_5068e : g_YS mJ11_highSurrogate_5068e 1 := ⟨⟨g_in 690 (by decide +kernel) rfl, g_in 89 (by decide +kernel) rfl, by decide +kernel, by decide +kernel, Nat.le_of_ble_eq_true rfl⟩, g_in 689 (by decide +kernel) rfl⟩
def mJ11_lowSurrogate_5068e : gm := (yJ11_lowSurrogate_5068e, cJ11_lowSurrogate_5068e, 1, (some .char))
theorem YJ11_lowSurrogate_5068e : g_YS mJ11_lowSurrogate_5068e 1 := ⟨⟨g_in 694 (by decide +kernel) rfl, g_in 89 (by decide +kernel) rfl, by decide +kernel, by decide +kernel, Nat.le_of_ble_eq_true rfl⟩, g_in 693 (by decide +kernel) rfl⟩
def mJ6_bitCount_0f7a4 : gm := (yJ6_bitCount_0f7a4, cJ6_bitCount_0f7a4, 1, (some .int))
theorem YJ6_bitCount_0f7a4 : g_YS mJ6_bitCount_0f7a4 1 := ⟨⟨g_in 818 (by decide +kernel) rfl, g_in 90 (by decide +kernel) rfl, by decide +kernel, by decide +kernel, Nat.le_of_ble_eq_true rfl⟩, g_in 817 (by decide +kernel) rfl⟩
def mJ9_abs_0f7a4 : gm := (yJ9_abs_0f7a4, cJ9_abs_0f7a4, 1, (some .int))
theorem YJ9_abs_0f7a4 : g_YS mJ9_abs_0f7a4 1 := ⟨⟨g_in 834 (by decide +kernel) rfl, g_in 84 (by decide +kernel) rfl, by decide +kernel, by decide +kernel, Nat.le_of_ble_eq_true rfl⟩, g_in 833 (by decide +kernel) rfl⟩
def mJ9_max_7cf53 : gm := (yJ9_max_7cf53, cJ9_max_7cf53, 2, (some .int))
theorem YJ9_max_7cf53 : g_YS mJ9_max_7cf53 2 := ⟨⟨g_in 509 (by decide +kernel) rfl, g_in 84 (by decide +kernel) rfl, by decide +kernel, by decide +kernel, Nat.le_of_ble_eq_true rfl⟩, g_in 508 (by decide +kernel) rfl⟩
def mJ9_min_7cf53 : gm := (yJ9_min_7cf53, cJ9_min_7cf53, 2, (some .int))
theorem YJ9_min_7cf53 : g_YS mJ9_min_7cf53 2 := ⟨⟨g_in 506 (by decide +kernel) rfl, g_in 84 (by decide +kernel) rfl, by decide +kernel, by decide +kernel, Nat.le_of_ble_eq_true rfl⟩, g_in 505 (by decide +kernel) rfl⟩
def mJ0_length_8abf5 : gm := (yJ0_length_8abf5, cJ0_length_8abf5, 1, (some .int))
theorem YJ0_length_8abf5 : g_YV mJ0_length_8abf5 0 := ⟨⟨g_in 584 (by decide +kernel) rfl, g_in 85 (by decide +kernel) rfl, by decide +kernel, by decide +kernel, Nat.le_of_ble_eq_true rfl⟩, g_in 582 (by decide +kernel) rfl, g_in 583 (by decide +kernel) rfl⟩
def mJ0_charAt_5068e : gm := (yJ0_charAt_5068e, cJ0_charAt_5068e, 2, (some .char))
theorem YJ0_charAt_5068e : g_YV mJ0_charAt_5068e 1 := ⟨⟨g_in 594 (by decide +kernel) rfl, g_in 85 (by decide +kernel) rfl, by decide +kernel, by decide +kernel, Nat.le_of_ble_eq_true rfl⟩, g_in 592 (by decide +kernel) rfl, g_in 593 (by decide +kernel) rfl⟩
def mJ0_indexOf_0f7a4 : gm := (yJ0_indexOf_0f7a4, cJ0_indexOf_0f7a4, 2, (some .int))
theorem YJ0_indexOf_0f7a4 : g_YV mJ0_indexOf_0f7a4 1 := ⟨⟨g_in 644 (by decide +kernel) rfl, g_in 85 (by decide +kernel) rfl, by decide +kernel, by decide +kernel, Nat.le_of_ble_eq_true rfl⟩, g_in 642 (by decide +kernel) rfl, g_in 643 (by decide +kernel) rfl⟩
def mJ0_indexOf_7cf53 : gm := (yJ0_indexOf_7cf53, cJ0_indexOf_7cf53, 3, (some .int))
theorem YJ0_indexOf_7cf53 : g_YV mJ0_indexOf_7cf53 2 := ⟨⟨g_in 648 (by decide +kernel) rfl, g_in 85 (by decide +kernel) rfl, by decide +kernel, by decide +kernel, Nat.le_of_ble_eq_true rfl⟩, g_in 646 (by decide +kernel) rfl, g_in 647 (by decide +kernel) rfl⟩
def mJ0_coder_7d493 : gm := (yJ0_coder_7d493, cJ0_coder_7d493, 1, (some .byte))
theorem YJ0_coder_7d493 : g_YV mJ0_coder_7d493 0 := ⟨⟨g_in 588 (by decide +kernel) rfl, g_in 85 (by decide +kernel) rfl, by decide +kernel, by decide +kernel, Nat.le_of_ble_eq_true rfl⟩, g_in 586 (by decide +kernel) rfl, g_in 587 (by decide +kernel) rfl⟩
def mJ0_isLatin1_aae02 : gm := (yJ0_isLatin1_aae02, cJ0_isLatin1_aae02, 1, (some .boolean))
theorem YJ0_isLatin1_aae02 : g_YV mJ0_isLatin1_aae02 0 := ⟨⟨g_in 598 (by decide +kernel) rfl, g_in 85 (by decide +kernel) rfl, by decide +kernel, by decide +kernel, Nat.le_of_ble_eq_true rfl⟩, g_in 596 (by decide +kernel) rfl, g_in 597 (by decide +kernel) rfl⟩
def mJ0_checkIndex_df160 : gm := (yJ0_checkIndex_df160, cJ0_checkIndex_df160, 2, none)
theorem YJ0_checkIndex_df160 : g_YS mJ0_checkIndex_df160 2 := ⟨⟨g_in 604 (by decide +kernel) rfl, g_in 85 (by decide +kernel) rfl, by decide +kernel, by decide +kernel, Nat.le_of_ble_eq_true rfl⟩, g_in 603 (by decide +kernel) rfl⟩
def mJ0_checkBoundsBeginEnd_23922 : gm := (yJ0_checkBoundsBeginEnd_23922, cJ0_checkBoundsBeginEnd_23922, 3, none)
theorem YJ0_checkBoundsBeginEnd_23922 : g_YS mJ0_checkBoundsBeginEnd_23922 3 := ⟨⟨g_in 675 (by decide +kernel) rfl, g_in 85 (by decide +kernel) rfl, by decide +kernel, by decide +kernel, Nat.le_of_ble_eq_true rfl⟩, g_in 674 (by decide +kernel) rfl⟩
def mJ1_charAt_3b067 : gm := (yJ1_charAt_3b067, cJ1_charAt_3b067, 2, (some .char))
theorem YJ1_charAt_3b067 : g_YS mJ1_charAt_3b067 2 := ⟨⟨g_in 601 (by decide +kernel) rfl, g_in 86 (by decide +kernel) rfl, by decide +kernel, by decide +kernel, Nat.le_of_ble_eq_true rfl⟩, g_in 600 (by decide +kernel) rfl⟩
def mJ1_canEncode_9a6ad : gm := (yJ1_canEncode_9a6ad, cJ1_canEncode_9a6ad, 1, (some .boolean))
theorem YJ1_canEncode_9a6ad : g_YS mJ1_canEncode_9a6ad 1 := ⟨⟨g_in 655 (by decide +kernel) rfl, g_in 86 (by decide +kernel) rfl, by decide +kernel, by decide +kernel, Nat.le_of_ble_eq_true rfl⟩, g_in 654 (by decide +kernel) rfl⟩
def mJ1_indexOf_4cfef : gm := (yJ1_indexOf_4cfef, cJ1_indexOf_4cfef, 4, (some .int))
theorem YJ1_indexOf_4cfef : g_YS mJ1_indexOf_4cfef 4 := ⟨⟨g_in 652 (by decide +kernel) rfl, g_in 86 (by decide +kernel) rfl, by decide +kernel, by decide +kernel, Nat.le_of_ble_eq_true rfl⟩, g_in 651 (by decide +kernel) rfl⟩
def mJ1_indexOfChar_4cfef : gm := (yJ1_indexOfChar_4cfef, cJ1_indexOfChar_4cfef, 6, (some .int))
theorem YJ1_indexOfChar_4cfef : g_YS mJ1_indexOfChar_4cfef 4 := ⟨⟨g_in 660 (by decide +kernel) rfl, g_in 86 (by decide +kernel) rfl, by decide +kernel, by decide +kernel, Nat.le_of_ble_eq_true rfl⟩, g_in 659 (by decide +kernel) rfl⟩
def mJ2_getChar_3b067 : gm := (yJ2_getChar_3b067, cJ2_getChar_3b067, 2, (some .char))
theorem YJ2_getChar_3b067 : g_YS mJ2_getChar_3b067 2 := ⟨⟨g_in 622 (by decide +kernel) rfl, g_in 88 (by decide +kernel) rfl, by decide +kernel, by decide +kernel, Nat.le_of_ble_eq_true rfl⟩, g_in 621 (by decide +kernel) rfl⟩
def mJ2_length_9d52b : gm := (yJ2_length_9d52b, cJ2_length_9d52b, 1, (some .int))
theorem YJ2_length_9d52b : g_YS mJ2_length_9d52b 1 := ⟨⟨g_in 618 (by decide +kernel) rfl, g_in 88 (by decide +kernel) rfl, by decide +kernel, by decide +kernel, Nat.le_of_ble_eq_true rfl⟩, g_in 617 (by decide +kernel) rfl⟩
def mJ2_indexOf_4cfef : gm := (yJ2_indexOf_4cfef, cJ2_indexOf_4cfef, 4, (some .int))
theorem YJ2_indexOf_4cfef : g_YS mJ2_indexOf_4cfef 4 := ⟨⟨g_in 663 (by decide +kernel) rfl, g_in 88 (by decide +kernel) rfl, by decide +kernel, by decide +kernel, Nat.le_of_ble_eq_true rfl⟩, g_in 662 (by decide +kernel) rfl⟩
def mJ2_indexOfChar_4cfef : gm := (yJ2_indexOfChar_4cfef, cJ2_indexOfChar_4cfef, 4, (some .int))
theorem YJ2_indexOfChar_4cfef : g_YS mJ2_indexOfChar_4cfef 4 := ⟨⟨g_in 669 (by decide +kernel) rfl, g_in 88 (by decide +kernel) rfl, by decide +kernel, by decide +kernel, Nat.le_of_ble_eq_true rfl⟩, g_in 668 (by decide +kernel) rfl⟩
def mJ2_indexOfCharUnsafe_4cfef : gm := (yJ2_indexOfCharUnsafe_4cfef, cJ2_indexOfCharUnsafe_4cfef, 5, (some .int))
theorem YJ2_indexOfCharUnsafe_4cfef : g_YS mJ2_indexOfCharUnsafe_4cfef 4 := ⟨⟨g_in 681 (by decide +kernel) rfl, g_in 88 (by decide +kernel) rfl, by decide +kernel, by decide +kernel, Nat.le_of_ble_eq_true rfl⟩, g_in 680 (by decide +kernel) rfl⟩
def mJ2_indexOfSupplementary_4cfef : gm := (yJ2_indexOfSupplementary_4cfef, cJ2_indexOfSupplementary_4cfef, 7, (some .int))
theorem YJ2_indexOfSupplementary_4cfef : g_YS mJ2_indexOfSupplementary_4cfef 4 := ⟨⟨g_in 684 (by decide +kernel) rfl, g_in 88 (by decide +kernel) rfl, by decide +kernel, by decide +kernel, Nat.le_of_ble_eq_true rfl⟩, g_in 683 (by decide +kernel) rfl⟩
def mJ2_charAt_3b067 : gm := (yJ2_charAt_3b067, cJ2_charAt_3b067, 2, (some .char))
theorem YJ2_charAt_3b067 : g_YS mJ2_charAt_3b067 2 := ⟨⟨g_in 612 (by decide +kernel) rfl, g_in 88 (by decide +kernel) rfl, by decide +kernel, by decide +kernel, Nat.le_of_ble_eq_true rfl⟩, g_in 611 (by decide +kernel) rfl⟩
def mJ2_checkIndex_2214a : gm := (yJ2_checkIndex_2214a, cJ2_checkIndex_2214a, 2, none)
theorem YJ2_checkIndex_2214a : g_YS mJ2_checkIndex_2214a 2 := ⟨⟨g_in 615 (by decide +kernel) rfl, g_in 88 (by decide +kernel) rfl, by decide +kernel, by decide +kernel, Nat.le_of_ble_eq_true rfl⟩, g_in 614 (by decide +kernel) rfl⟩
def mJ2_checkBoundsBeginEnd_d044e : gm := (yJ2_checkBoundsBeginEnd_d044e, cJ2_checkBoundsBeginEnd_d044e, 3, none)
theorem YJ2_checkBoundsBeginEnd_d044e : g_YS mJ2_checkBoundsBeginEnd_d044e 3 := ⟨⟨g_in 672 (by decide +kernel) rfl, g_in 88 (by decide +kernel) rfl, by decide +kernel, by decide +kernel, Nat.le_of_ble_eq_true rfl⟩, g_in 671 (by decide +kernel) rfl⟩
def mJ3_checkIndex_8e157 : gm := (yJ3_checkIndex_8e157, cJ3_checkIndex_8e157, 3, (some .int))
theorem YJ3_checkIndex_8e157 : g_YS mJ3_checkIndex_8e157 3 := ⟨⟨g_in 609 (by decide +kernel) rfl, g_in 87 (by decide +kernel) rfl, by decide +kernel, by decide +kernel, Nat.le_of_ble_eq_true rfl⟩, g_in 608 (by decide +kernel) rfl⟩
def mJ3_checkFromToIndex_8c36e : gm := (yJ3_checkFromToIndex_8c36e, cJ3_checkFromToIndex_8c36e, 4, (some .int))
theorem YJ3_checkFromToIndex_8c36e : g_YS mJ3_checkFromToIndex_8c36e 4 := ⟨⟨g_in 678 (by decide +kernel) rfl, g_in 87 (by decide +kernel) rfl, by decide +kernel, by decide +kernel, Nat.le_of_ble_eq_true rfl⟩, g_in 677 (by decide +kernel) rfl⟩
theorem ni_L : Cond.initialized "SpoonScalesLaw" ∈ g_t := g_in 74 (by decide +kernel) rfl
theorem ni_X6 : Cond.initialized "SpoonScales" ∈ g_t := g_in 75 (by decide +kernel) rfl
theorem ni_X5 : Cond.initialized "SpoonScales$Trial" ∈ g_t := g_in 76 (by decide +kernel) rfl
theorem ni_X0 : Cond.initialized "SpoonScales$Bench" ∈ g_t := g_in 77 (by decide +kernel) rfl
theorem ni_X1 : Cond.initialized "SpoonScales$Court" ∈ g_t := g_in 78 (by decide +kernel) rfl
theorem ni_X4 : Cond.initialized "SpoonScales$Scene" ∈ g_t := g_in 79 (by decide +kernel) rfl
theorem ni_X2 : Cond.initialized "SpoonScales$Law" ∈ g_t := g_in 80 (by decide +kernel) rfl
theorem ni_X3 : Cond.initialized "SpoonScales$Reader" ∈ g_t := g_in 81 (by decide +kernel) rfl
theorem ni_X7 : Cond.initialized "SpoonScalesModel" ∈ g_t := g_in 82 (by decide +kernel) rfl
theorem ni_J10 : Cond.initialized "java/lang/System" ∈ g_t := g_in 83 (by decide +kernel) rfl
theorem ni_J9 : Cond.initialized "java/lang/Math" ∈ g_t := g_in 84 (by decide +kernel) rfl
theorem ni_J0 : Cond.initialized "java/lang/String" ∈ g_t := g_in 85 (by decide +kernel) rfl
theorem ni_J1 : Cond.initialized "java/lang/StringLatin1" ∈ g_t := g_in 86 (by decide +kernel) rfl
theorem ni_J3 : Cond.initialized "jdk/internal/util/Preconditions" ∈ g_t := g_in 87 (by decide +kernel) rfl
theorem ni_J2 : Cond.initialized "java/lang/StringUTF16" ∈ g_t := g_in 88 (by decide +kernel) rfl
theorem ni_J11 : Cond.initialized "java/lang/Character" ∈ g_t := g_in 89 (by decide +kernel) rfl
theorem ni_J6 : Cond.initialized "java/lang/Integer" ∈ g_t := g_in 90 (by decide +kernel) rfl
theorem nL_7 : Cond.classLink "SpoonScalesLaw" 7 "SpoonScales" ∈ g_t := g_in 91 (by decide +kernel) rfl
theorem nw_X6 : Cond.instantiable "SpoonScales" 10 ∈ g_t := g_in 92 (by decide +kernel) rfl
theorem lL_9 : Cond.methodLink "SpoonScalesLaw" 9 yX6_init ∈ g_t := g_in 93 (by decide +kernel) rfl
theorem lX6_1 : Cond.methodLink "SpoonScales" 1 Lib.objectInit ∈ g_t := g_in 96 (by decide +kernel) rfl
theorem nX6_7 : Cond.classLink "SpoonScales" 7 "SpoonScales$Trial" ∈ g_t := g_in 99 (by decide +kernel) rfl
theorem nw_X5 : Cond.instantiable "SpoonScales$Trial" 12 ∈ g_t := g_in 100 (by decide +kernel) rfl
theorem lX6_9 : Cond.methodLink "SpoonScales" 9 yX5_init ∈ g_t := g_in 101 (by decide +kernel) rfl
theorem lX5_3 : Cond.methodLink "SpoonScales$Trial" 3 Lib.objectInit ∈ g_t := g_in 104 (by decide +kernel) rfl
theorem nX5_9 : Cond.classLink "SpoonScales$Trial" 9 "SpoonScales$Bench" ∈ g_t := g_in 105 (by decide +kernel) rfl
theorem nw_X0 : Cond.instantiable "SpoonScales$Bench" 4 ∈ g_t := g_in 106 (by decide +kernel) rfl
theorem lX5_11 : Cond.methodLink "SpoonScales$Trial" 11 yX0_init ∈ g_t := g_in 107 (by decide +kernel) rfl
theorem lX0_3 : Cond.methodLink "SpoonScales$Bench" 3 Lib.objectInit ∈ g_t := g_in 110 (by decide +kernel) rfl
theorem nX0_9 : Cond.classLink "SpoonScales$Bench" 9 "SpoonScales$Court" ∈ g_t := g_in 111 (by decide +kernel) rfl
theorem nw_X1 : Cond.instantiable "SpoonScales$Court" 15 ∈ g_t := g_in 112 (by decide +kernel) rfl
theorem lX0_11 : Cond.methodLink "SpoonScales$Bench" 11 yX1_init ∈ g_t := g_in 113 (by decide +kernel) rfl
theorem lX1_3 : Cond.methodLink "SpoonScales$Court" 3 Lib.objectInit ∈ g_t := g_in 116 (by decide +kernel) rfl
theorem nX1_9 : Cond.classLink "SpoonScales$Court" 9 "SpoonScales$Scene" ∈ g_t := g_in 117 (by decide +kernel) rfl
theorem nw_X4 : Cond.instantiable "SpoonScales$Scene" 6 ∈ g_t := g_in 118 (by decide +kernel) rfl
theorem lX1_11 : Cond.methodLink "SpoonScales$Court" 11 yX4_init ∈ g_t := g_in 119 (by decide +kernel) rfl
theorem lX4_3 : Cond.methodLink "SpoonScales$Scene" 3 Lib.objectInit ∈ g_t := g_in 122 (by decide +kernel) rfl
theorem fX4_9 : g_F "SpoonScales$Scene" 9 4 0 (.array .int) true := ⟨_, rfl, by decide, g_in 123 (by decide +kernel) rfl, rfl, rfl⟩
theorem fX0_37 : g_F "SpoonScales$Bench" 37 4 0 (.array .int) true := ⟨_, rfl, by decide, g_in 124 (by decide +kernel) rfl, rfl, rfl⟩
theorem fX6_72 : g_F "SpoonScales" 72 4 0 (.array .int) true := ⟨_, rfl, by decide, g_in 125 (by decide +kernel) rfl, rfl, rfl⟩
theorem fX5_67 : g_F "SpoonScales$Trial" 67 4 0 (.array .int) true := ⟨_, rfl, by decide, g_in 126 (by decide +kernel) rfl, rfl, rfl⟩
theorem fX4_15 : g_F "SpoonScales$Scene" 15 4 1 (.array .int) true := ⟨_, rfl, by decide, g_in 127 (by decide +kernel) rfl, rfl, rfl⟩
theorem fX0_32 : g_F "SpoonScales$Bench" 32 4 1 (.array .int) true := ⟨_, rfl, by decide, g_in 128 (by decide +kernel) rfl, rfl, rfl⟩
theorem fX1_76 : g_F "SpoonScales$Court" 76 4 1 (.array .int) true := ⟨_, rfl, by decide, g_in 129 (by decide +kernel) rfl, rfl, rfl⟩
theorem fX6_95 : g_F "SpoonScales" 95 4 1 (.array .int) true := ⟨_, rfl, by decide, g_in 130 (by decide +kernel) rfl, rfl, rfl⟩
theorem fX4_18 : g_F "SpoonScales$Scene" 18 4 2 (.array .int) true := ⟨_, rfl, by decide, g_in 131 (by decide +kernel) rfl, rfl, rfl⟩
theorem fX0_76 : g_F "SpoonScales$Bench" 76 4 2 (.array .int) true := ⟨_, rfl, by decide, g_in 132 (by decide +kernel) rfl, rfl, rfl⟩
theorem fX1_86 : g_F "SpoonScales$Court" 86 4 2 (.array .int) true := ⟨_, rfl, by decide, g_in 133 (by decide +kernel) rfl, rfl, rfl⟩
theorem fX6_177 : g_F "SpoonScales" 177 4 2 (.array .int) true := ⟨_, rfl, by decide, g_in 134 (by decide +kernel) rfl, rfl, rfl⟩
theorem fX4_21 : g_F "SpoonScales$Scene" 21 4 3 (.int) false := ⟨_, rfl, by decide, g_in 135 (by decide +kernel) rfl, rfl, rfl⟩
theorem fX1_73 : g_F "SpoonScales$Court" 73 4 3 (.int) false := ⟨_, rfl, by decide, g_in 136 (by decide +kernel) rfl, rfl, rfl⟩
theorem fX0_90 : g_F "SpoonScales$Bench" 90 4 3 (.int) false := ⟨_, rfl, by decide, g_in 137 (by decide +kernel) rfl, rfl, rfl⟩
theorem fX6_101 : g_F "SpoonScales" 101 4 3 (.int) false := ⟨_, rfl, by decide, g_in 138 (by decide +kernel) rfl, rfl, rfl⟩
theorem fX4_25 : g_F "SpoonScales$Scene" 25 4 4 (.int) false := ⟨_, rfl, by decide, g_in 139 (by decide +kernel) rfl, rfl, rfl⟩
theorem fX0_83 : g_F "SpoonScales$Bench" 83 4 4 (.int) false := ⟨_, rfl, by decide, g_in 140 (by decide +kernel) rfl, rfl, rfl⟩
theorem fX1_79 : g_F "SpoonScales$Court" 79 4 4 (.int) false := ⟨_, rfl, by decide, g_in 141 (by decide +kernel) rfl, rfl, rfl⟩
theorem fX6_115 : g_F "SpoonScales" 115 4 4 (.int) false := ⟨_, rfl, by decide, g_in 142 (by decide +kernel) rfl, rfl, rfl⟩
theorem fX4_28 : g_F "SpoonScales$Scene" 28 4 5 (.int) false := ⟨_, rfl, by decide, g_in 143 (by decide +kernel) rfl, rfl, rfl⟩
theorem fX6_89 : g_F "SpoonScales" 89 4 5 (.int) false := ⟨_, rfl, by decide, g_in 144 (by decide +kernel) rfl, rfl, rfl⟩
theorem na_int : Cond.arrayClass .int ∈ g_t := g_in 158 (by decide +kernel) rfl
theorem fX1_12 : g_F "SpoonScales$Court" 12 1 0 (.object "SpoonScales$Scene") true := ⟨_, rfl, by decide, g_in 160 (by decide +kernel) rfl, rfl, rfl⟩
theorem fX5_47 : g_F "SpoonScales$Trial" 47 1 0 (.object "SpoonScales$Scene") true := ⟨_, rfl, by decide, g_in 161 (by decide +kernel) rfl, rfl, rfl⟩
theorem fX6_68 : g_F "SpoonScales" 68 1 0 (.object "SpoonScales$Scene") true := ⟨_, rfl, by decide, g_in 162 (by decide +kernel) rfl, rfl, rfl⟩
theorem fX1_18 : g_F "SpoonScales$Court" 18 1 1 (.array (.object "SpoonScales$Scene")) true := ⟨_, rfl, by decide, g_in 163 (by decide +kernel) rfl, rfl, rfl⟩
theorem fX6_169 : g_F "SpoonScales" 169 1 1 (.array (.object "SpoonScales$Scene")) true := ⟨_, rfl, by decide, g_in 164 (by decide +kernel) rfl, rfl, rfl⟩
theorem fX1_52 : g_F "SpoonScales$Court" 52 1 2 (.int) false := ⟨_, rfl, by decide, g_in 165 (by decide +kernel) rfl, rfl, rfl⟩
theorem fX6_166 : g_F "SpoonScales" 166 1 2 (.int) false := ⟨_, rfl, by decide, g_in 166 (by decide +kernel) rfl, rfl, rfl⟩
theorem fX1_22 : g_F "SpoonScales$Court" 22 1 3 (.array .int) true := ⟨_, rfl, by decide, g_in 167 (by decide +kernel) rfl, rfl, rfl⟩
theorem fX6_80 : g_F "SpoonScales" 80 1 3 (.array .int) true := ⟨_, rfl, by decide, g_in 168 (by decide +kernel) rfl, rfl, rfl⟩
theorem fX0_87 : g_F "SpoonScales$Bench" 87 1 3 (.array .int) true := ⟨_, rfl, by decide, g_in 169 (by decide +kernel) rfl, rfl, rfl⟩
theorem fX1_26 : g_F "SpoonScales$Court" 26 1 4 (.array .int) true := ⟨_, rfl, by decide, g_in 170 (by decide +kernel) rfl, rfl, rfl⟩
theorem fX0_58 : g_F "SpoonScales$Bench" 58 1 4 (.array .int) true := ⟨_, rfl, by decide, g_in 171 (by decide +kernel) rfl, rfl, rfl⟩
theorem fX6_83 : g_F "SpoonScales" 83 1 4 (.array .int) true := ⟨_, rfl, by decide, g_in 172 (by decide +kernel) rfl, rfl, rfl⟩
theorem fX1_29 : g_F "SpoonScales$Court" 29 1 5 (.array .int) true := ⟨_, rfl, by decide, g_in 173 (by decide +kernel) rfl, rfl, rfl⟩
theorem fX6_86 : g_F "SpoonScales" 86 1 5 (.array .int) true := ⟨_, rfl, by decide, g_in 174 (by decide +kernel) rfl, rfl, rfl⟩
theorem fX5_56 : g_F "SpoonScales$Trial" 56 1 6 (.int) false := ⟨_, rfl, by decide, g_in 175 (by decide +kernel) rfl, rfl, rfl⟩
theorem fX1_61 : g_F "SpoonScales$Court" 61 1 6 (.int) false := ⟨_, rfl, by decide, g_in 176 (by decide +kernel) rfl, rfl, rfl⟩
theorem fX6_77 : g_F "SpoonScales" 77 1 6 (.int) false := ⟨_, rfl, by decide, g_in 177 (by decide +kernel) rfl, rfl, rfl⟩
theorem fX1_32 : g_F "SpoonScales$Court" 32 1 7 (.array .int) true := ⟨_, rfl, by decide, g_in 178 (by decide +kernel) rfl, rfl, rfl⟩
theorem fX6_184 : g_F "SpoonScales" 184 1 7 (.array .int) true := ⟨_, rfl, by decide, g_in 179 (by decide +kernel) rfl, rfl, rfl⟩
theorem fX1_35 : g_F "SpoonScales$Court" 35 1 8 (.array .int) true := ⟨_, rfl, by decide, g_in 180 (by decide +kernel) rfl, rfl, rfl⟩
theorem fX6_187 : g_F "SpoonScales" 187 1 8 (.array .int) true := ⟨_, rfl, by decide, g_in 181 (by decide +kernel) rfl, rfl, rfl⟩
theorem fX1_64 : g_F "SpoonScales$Court" 64 1 9 (.int) false := ⟨_, rfl, by decide, g_in 182 (by decide +kernel) rfl, rfl, rfl⟩
theorem fX6_134 : g_F "SpoonScales" 134 1 9 (.int) false := ⟨_, rfl, by decide, g_in 183 (by decide +kernel) rfl, rfl, rfl⟩
theorem fX1_38 : g_F "SpoonScales$Court" 38 1 10 (.int) false := ⟨_, rfl, by decide, g_in 184 (by decide +kernel) rfl, rfl, rfl⟩
theorem fX0_93 : g_F "SpoonScales$Bench" 93 1 10 (.int) false := ⟨_, rfl, by decide, g_in 185 (by decide +kernel) rfl, rfl, rfl⟩
theorem fX6_154 : g_F "SpoonScales" 154 1 10 (.int) false := ⟨_, rfl, by decide, g_in 186 (by decide +kernel) rfl, rfl, rfl⟩
theorem fX1_42 : g_F "SpoonScales$Court" 42 1 11 (.int) false := ⟨_, rfl, by decide, g_in 187 (by decide +kernel) rfl, rfl, rfl⟩
theorem fX6_230 : g_F "SpoonScales" 230 1 11 (.int) false := ⟨_, rfl, by decide, g_in 188 (by decide +kernel) rfl, rfl, rfl⟩
theorem fX1_67 : g_F "SpoonScales$Court" 67 1 12 (.int) false := ⟨_, rfl, by decide, g_in 189 (by decide +kernel) rfl, rfl, rfl⟩
theorem fX6_224 : g_F "SpoonScales" 224 1 12 (.int) false := ⟨_, rfl, by decide, g_in 190 (by decide +kernel) rfl, rfl, rfl⟩
theorem fX1_45 : g_F "SpoonScales$Court" 45 1 13 (.array .int) true := ⟨_, rfl, by decide, g_in 191 (by decide +kernel) rfl, rfl, rfl⟩
theorem fX6_258 : g_F "SpoonScales" 258 1 13 (.array .int) true := ⟨_, rfl, by decide, g_in 192 (by decide +kernel) rfl, rfl, rfl⟩
theorem fX1_70 : g_F "SpoonScales$Court" 70 1 14 (.int) false := ⟨_, rfl, by decide, g_in 193 (by decide +kernel) rfl, rfl, rfl⟩
theorem fX6_255 : g_F "SpoonScales" 255 1 14 (.int) false := ⟨_, rfl, by decide, g_in 194 (by decide +kernel) rfl, rfl, rfl⟩
theorem nX0_18 : Cond.classLink "SpoonScales$Bench" 18 "SpoonScales$Law" ∈ g_t := g_in 226 (by decide +kernel) rfl
theorem nw_X2 : Cond.instantiable "SpoonScales$Law" 8 ∈ g_t := g_in 228 (by decide +kernel) rfl
theorem lX0_24 : Cond.methodLink "SpoonScales$Bench" 24 yX2_init ∈ g_t := g_in 229 (by decide +kernel) rfl
theorem lX2_3 : Cond.methodLink "SpoonScales$Law" 3 Lib.objectInit ∈ g_t := g_in 232 (by decide +kernel) rfl
theorem lX2_30 : Cond.methodLink "SpoonScales$Law" 30 yX2_wipe ∈ g_t := g_in 233 (by decide +kernel) rfl
theorem fX2_9 : g_F "SpoonScales$Law" 9 2 0 (.array .int) true := ⟨_, rfl, by decide, g_in 237 (by decide +kernel) rfl, rfl, rfl⟩
theorem fX0_101 : g_F "SpoonScales$Bench" 101 2 0 (.array .int) true := ⟨_, rfl, by decide, g_in 238 (by decide +kernel) rfl, rfl, rfl⟩
theorem fX2_33 : g_F "SpoonScales$Law" 33 2 1 (.int) false := ⟨_, rfl, by decide, g_in 239 (by decide +kernel) rfl, rfl, rfl⟩
theorem fX3_130 : g_F "SpoonScales$Reader" 130 2 1 (.int) false := ⟨_, rfl, by decide, g_in 240 (by decide +kernel) rfl, rfl, rfl⟩
theorem fX2_15 : g_F "SpoonScales$Law" 15 2 2 (.array .int) true := ⟨_, rfl, by decide, g_in 241 (by decide +kernel) rfl, rfl, rfl⟩
theorem fX0_95 : g_F "SpoonScales$Bench" 95 2 2 (.array .int) true := ⟨_, rfl, by decide, g_in 242 (by decide +kernel) rfl, rfl, rfl⟩
theorem fX3_127 : g_F "SpoonScales$Reader" 127 2 2 (.array .int) true := ⟨_, rfl, by decide, g_in 243 (by decide +kernel) rfl, rfl, rfl⟩
theorem fX2_18 : g_F "SpoonScales$Law" 18 2 3 (.array .int) true := ⟨_, rfl, by decide, g_in 244 (by decide +kernel) rfl, rfl, rfl⟩
theorem fX0_98 : g_F "SpoonScales$Bench" 98 2 3 (.array .int) true := ⟨_, rfl, by decide, g_in 245 (by decide +kernel) rfl, rfl, rfl⟩
theorem fX3_160 : g_F "SpoonScales$Reader" 160 2 3 (.array .int) true := ⟨_, rfl, by decide, g_in 246 (by decide +kernel) rfl, rfl, rfl⟩
theorem fX2_21 : g_F "SpoonScales$Law" 21 2 4 (.array .int) true := ⟨_, rfl, by decide, g_in 247 (by decide +kernel) rfl, rfl, rfl⟩
theorem fX3_102 : g_F "SpoonScales$Reader" 102 2 4 (.array .int) true := ⟨_, rfl, by decide, g_in 248 (by decide +kernel) rfl, rfl, rfl⟩
theorem fX6_279 : g_F "SpoonScales" 279 2 4 (.array .int) true := ⟨_, rfl, by decide, g_in 249 (by decide +kernel) rfl, rfl, rfl⟩
theorem fX2_24 : g_F "SpoonScales$Law" 24 2 5 (.array .int) true := ⟨_, rfl, by decide, g_in 250 (by decide +kernel) rfl, rfl, rfl⟩
theorem fX3_115 : g_F "SpoonScales$Reader" 115 2 5 (.array .int) true := ⟨_, rfl, by decide, g_in 251 (by decide +kernel) rfl, rfl, rfl⟩
theorem fX6_273 : g_F "SpoonScales" 273 2 5 (.array .int) true := ⟨_, rfl, by decide, g_in 252 (by decide +kernel) rfl, rfl, rfl⟩
theorem fX2_27 : g_F "SpoonScales$Law" 27 2 6 (.array .int) true := ⟨_, rfl, by decide, g_in 253 (by decide +kernel) rfl, rfl, rfl⟩
theorem fX3_124 : g_F "SpoonScales$Reader" 124 2 6 (.array .int) true := ⟨_, rfl, by decide, g_in 254 (by decide +kernel) rfl, rfl, rfl⟩
theorem fX6_276 : g_F "SpoonScales" 276 2 6 (.array .int) true := ⟨_, rfl, by decide, g_in 255 (by decide +kernel) rfl, rfl, rfl⟩
theorem fX2_37 : g_F "SpoonScales$Law" 37 2 7 (.int) false := ⟨_, rfl, by decide, g_in 256 (by decide +kernel) rfl, rfl, rfl⟩
theorem fX3_105 : g_F "SpoonScales$Reader" 105 2 7 (.int) false := ⟨_, rfl, by decide, g_in 257 (by decide +kernel) rfl, rfl, rfl⟩
theorem fX6_157 : g_F "SpoonScales" 157 2 7 (.int) false := ⟨_, rfl, by decide, g_in 258 (by decide +kernel) rfl, rfl, rfl⟩
theorem fX0_12 : g_F "SpoonScales$Bench" 12 0 0 (.object "SpoonScales$Court") true := ⟨_, rfl, by decide, g_in 276 (by decide +kernel) rfl, rfl, rfl⟩
theorem fX5_18 : g_F "SpoonScales$Trial" 18 0 0 (.object "SpoonScales$Court") true := ⟨_, rfl, by decide, g_in 277 (by decide +kernel) rfl, rfl, rfl⟩
theorem fX6_21 : g_F "SpoonScales" 21 0 0 (.object "SpoonScales$Court") true := ⟨_, rfl, by decide, g_in 278 (by decide +kernel) rfl, rfl, rfl⟩
theorem fX0_20 : g_F "SpoonScales$Bench" 20 0 1 (.array (.object "SpoonScales$Law")) true := ⟨_, rfl, by decide, g_in 279 (by decide +kernel) rfl, rfl, rfl⟩
theorem fX6_137 : g_F "SpoonScales" 137 0 1 (.array (.object "SpoonScales$Law")) true := ⟨_, rfl, by decide, g_in 280 (by decide +kernel) rfl, rfl, rfl⟩
theorem fX0_25 : g_F "SpoonScales$Bench" 25 0 2 (.array .int) true := ⟨_, rfl, by decide, g_in 281 (by decide +kernel) rfl, rfl, rfl⟩
theorem fX0_29 : g_F "SpoonScales$Bench" 29 0 3 (.array .int) true := ⟨_, rfl, by decide, g_in 282 (by decide +kernel) rfl, rfl, rfl⟩
theorem nX5_23 : Cond.classLink "SpoonScales$Trial" 23 "SpoonScales$Scene" ∈ g_t := g_in 292 (by decide +kernel) rfl
theorem lX5_25 : Cond.methodLink "SpoonScales$Trial" 25 yX4_init ∈ g_t := g_in 293 (by decide +kernel) rfl
theorem fX5_12 : g_F "SpoonScales$Trial" 12 5 0 (.object "SpoonScales$Bench") true := ⟨_, rfl, by decide, g_in 294 (by decide +kernel) rfl, rfl, rfl⟩
theorem fX6_16 : g_F "SpoonScales" 16 5 0 (.object "SpoonScales$Bench") true := ⟨_, rfl, by decide, g_in 295 (by decide +kernel) rfl, rfl, rfl⟩
theorem fX5_22 : g_F "SpoonScales$Trial" 22 5 1 (.object "SpoonScales$Court") true := ⟨_, rfl, by decide, g_in 296 (by decide +kernel) rfl, rfl, rfl⟩
theorem fX5_26 : g_F "SpoonScales$Trial" 26 5 2 (.object "SpoonScales$Scene") true := ⟨_, rfl, by decide, g_in 297 (by decide +kernel) rfl, rfl, rfl⟩
theorem fX5_30 : g_F "SpoonScales$Trial" 30 5 3 (.array .int) true := ⟨_, rfl, by decide, g_in 298 (by decide +kernel) rfl, rfl, rfl⟩
theorem fX5_34 : g_F "SpoonScales$Trial" 34 5 4 (.array .int) true := ⟨_, rfl, by decide, g_in 299 (by decide +kernel) rfl, rfl, rfl⟩
theorem fX5_37 : g_F "SpoonScales$Trial" 37 5 5 (.array .int) true := ⟨_, rfl, by decide, g_in 300 (by decide +kernel) rfl, rfl, rfl⟩
theorem fX6_205 : g_F "SpoonScales" 205 5 5 (.array .int) true := ⟨_, rfl, by decide, g_in 301 (by decide +kernel) rfl, rfl, rfl⟩
theorem fX5_70 : g_F "SpoonScales$Trial" 70 5 6 (.int) false := ⟨_, rfl, by decide, g_in 302 (by decide +kernel) rfl, rfl, rfl⟩
theorem fX6_202 : g_F "SpoonScales" 202 5 6 (.int) false := ⟨_, rfl, by decide, g_in 303 (by decide +kernel) rfl, rfl, rfl⟩
theorem fX5_40 : g_F "SpoonScales$Trial" 40 5 7 (.array .int) true := ⟨_, rfl, by decide, g_in 304 (by decide +kernel) rfl, rfl, rfl⟩
theorem fX6_217 : g_F "SpoonScales" 217 5 7 (.array .int) true := ⟨_, rfl, by decide, g_in 305 (by decide +kernel) rfl, rfl, rfl⟩
theorem fX5_43 : g_F "SpoonScales$Trial" 43 5 8 (.int) false := ⟨_, rfl, by decide, g_in 306 (by decide +kernel) rfl, rfl, rfl⟩
theorem fX6_211 : g_F "SpoonScales" 211 5 8 (.int) false := ⟨_, rfl, by decide, g_in 307 (by decide +kernel) rfl, rfl, rfl⟩
theorem fX5_98 : g_F "SpoonScales$Trial" 98 5 9 (.int) false := ⟨_, rfl, by decide, g_in 308 (by decide +kernel) rfl, rfl, rfl⟩
theorem fX6_214 : g_F "SpoonScales" 214 5 9 (.int) false := ⟨_, rfl, by decide, g_in 309 (by decide +kernel) rfl, rfl, rfl⟩
theorem fX5_95 : g_F "SpoonScales$Trial" 95 5 10 (.int) false := ⟨_, rfl, by decide, g_in 310 (by decide +kernel) rfl, rfl, rfl⟩
theorem fX5_105 : g_F "SpoonScales$Trial" 105 5 11 (.int) false := ⟨_, rfl, by decide, g_in 311 (by decide +kernel) rfl, rfl, rfl⟩
theorem nX6_28 : Cond.classLink "SpoonScales" 28 "SpoonScales$Court" ∈ g_t := g_in 337 (by decide +kernel) rfl
theorem lX6_30 : Cond.methodLink "SpoonScales" 30 yX1_init ∈ g_t := g_in 338 (by decide +kernel) rfl
theorem nX6_34 : Cond.classLink "SpoonScales" 34 "SpoonScales$Reader" ∈ g_t := g_in 339 (by decide +kernel) rfl
theorem nw_X3 : Cond.instantiable "SpoonScales$Reader" 15 ∈ g_t := g_in 340 (by decide +kernel) rfl
theorem lX6_36 : Cond.methodLink "SpoonScales" 36 yX3_init ∈ g_t := g_in 341 (by decide +kernel) rfl
theorem lX3_3 : Cond.methodLink "SpoonScales$Reader" 3 Lib.objectInit ∈ g_t := g_in 344 (by decide +kernel) rfl
theorem fX3_9 : g_F "SpoonScales$Reader" 9 3 0 (.array .int) true := ⟨_, rfl, by decide, g_in 345 (by decide +kernel) rfl, rfl, rfl⟩
theorem fX6_270 : g_F "SpoonScales" 270 3 0 (.array .int) true := ⟨_, rfl, by decide, g_in 346 (by decide +kernel) rfl, rfl, rfl⟩
theorem fX3_24 : g_F "SpoonScales$Reader" 24 3 1 (.int) false := ⟨_, rfl, by decide, g_in 347 (by decide +kernel) rfl, rfl, rfl⟩
theorem fX3_28 : g_F "SpoonScales$Reader" 28 3 2 (.int) false := ⟨_, rfl, by decide, g_in 348 (by decide +kernel) rfl, rfl, rfl⟩
theorem fX3_49 : g_F "SpoonScales$Reader" 49 3 3 (.int) false := ⟨_, rfl, by decide, g_in 349 (by decide +kernel) rfl, rfl, rfl⟩
theorem fX3_56 : g_F "SpoonScales$Reader" 56 3 4 (.int) false := ⟨_, rfl, by decide, g_in 350 (by decide +kernel) rfl, rfl, rfl⟩
theorem fX3_87 : g_F "SpoonScales$Reader" 87 3 5 (.int) false := ⟨_, rfl, by decide, g_in 351 (by decide +kernel) rfl, rfl, rfl⟩
theorem fX3_37 : g_F "SpoonScales$Reader" 37 3 6 (.object "SpoonScales$Law") false := ⟨_, rfl, by decide, g_in 352 (by decide +kernel) rfl, rfl, rfl⟩
theorem fX3_31 : g_F "SpoonScales$Reader" 31 3 7 (.int) false := ⟨_, rfl, by decide, g_in 353 (by decide +kernel) rfl, rfl, rfl⟩
theorem fX6_145 : g_F "SpoonScales" 145 3 7 (.int) false := ⟨_, rfl, by decide, g_in 354 (by decide +kernel) rfl, rfl, rfl⟩
theorem fX3_34 : g_F "SpoonScales$Reader" 34 3 8 (.int) false := ⟨_, rfl, by decide, g_in 355 (by decide +kernel) rfl, rfl, rfl⟩
theorem fX6_148 : g_F "SpoonScales" 148 3 8 (.int) false := ⟨_, rfl, by decide, g_in 356 (by decide +kernel) rfl, rfl, rfl⟩
theorem fX3_15 : g_F "SpoonScales$Reader" 15 3 9 (.array .int) true := ⟨_, rfl, by decide, g_in 357 (by decide +kernel) rfl, rfl, rfl⟩
theorem fX3_132 : g_F "SpoonScales$Reader" 132 3 10 (.int) false := ⟨_, rfl, by decide, g_in 358 (by decide +kernel) rfl, rfl, rfl⟩
theorem fX3_135 : g_F "SpoonScales$Reader" 135 3 11 (.int) false := ⟨_, rfl, by decide, g_in 359 (by decide +kernel) rfl, rfl, rfl⟩
theorem fX3_138 : g_F "SpoonScales$Reader" 138 3 12 (.int) false := ⟨_, rfl, by decide, g_in 360 (by decide +kernel) rfl, rfl, rfl⟩
theorem fX3_141 : g_F "SpoonScales$Reader" 141 3 13 (.boolean) false := ⟨_, rfl, by decide, g_in 361 (by decide +kernel) rfl, rfl, rfl⟩
theorem fX3_145 : g_F "SpoonScales$Reader" 145 3 14 (.boolean) false := ⟨_, rfl, by decide, g_in 362 (by decide +kernel) rfl, rfl, rfl⟩
theorem fX6_10 : g_F "SpoonScales" 10 6 0 (.object "SpoonScales$Trial") true := ⟨_, rfl, by decide, g_in 394 (by decide +kernel) rfl, rfl, rfl⟩
theorem fX6_20 : g_F "SpoonScales" 20 6 1 (.object "SpoonScales$Bench") true := ⟨_, rfl, by decide, g_in 395 (by decide +kernel) rfl, rfl, rfl⟩
theorem fX6_27 : g_F "SpoonScales" 27 6 2 (.object "SpoonScales$Court") true := ⟨_, rfl, by decide, g_in 396 (by decide +kernel) rfl, rfl, rfl⟩
theorem fX6_31 : g_F "SpoonScales" 31 6 3 (.object "SpoonScales$Court") true := ⟨_, rfl, by decide, g_in 397 (by decide +kernel) rfl, rfl, rfl⟩
theorem fX6_37 : g_F "SpoonScales" 37 6 4 (.object "SpoonScales$Reader") true := ⟨_, rfl, by decide, g_in 398 (by decide +kernel) rfl, rfl, rfl⟩
theorem fX6_41 : g_F "SpoonScales" 41 6 5 (.array .int) true := ⟨_, rfl, by decide, g_in 399 (by decide +kernel) rfl, rfl, rfl⟩
theorem fX6_45 : g_F "SpoonScales" 45 6 6 (.int) false := ⟨_, rfl, by decide, g_in 400 (by decide +kernel) rfl, rfl, rfl⟩
theorem fX6_49 : g_F "SpoonScales" 49 6 7 (.int) false := ⟨_, rfl, by decide, g_in 401 (by decide +kernel) rfl, rfl, rfl⟩
theorem fX6_52 : g_F "SpoonScales" 52 6 8 (.int) false := ⟨_, rfl, by decide, g_in 402 (by decide +kernel) rfl, rfl, rfl⟩
theorem fX6_55 : g_F "SpoonScales" 55 6 9 (.int) false := ⟨_, rfl, by decide, g_in 403 (by decide +kernel) rfl, rfl, rfl⟩
theorem lL_13 : Cond.methodLink "SpoonScalesLaw" 13 yX6_pot ∈ g_t := g_in 425 (by decide +kernel) rfl
theorem lX6_58 : Cond.methodLink "SpoonScales" 58 yX6_isSide ∈ g_t := g_in 429 (by decide +kernel) rfl
theorem lX6_62 : Cond.methodLink "SpoonScales" 62 yX6_isKind ∈ g_t := g_in 432 (by decide +kernel) rfl
theorem lX6_65 : Cond.methodLink "SpoonScales" 65 yX6_forgetSought ∈ g_t := g_in 435 (by decide +kernel) rfl
theorem lL_18 : Cond.methodLink "SpoonScalesLaw" 18 yX6_eater ∈ g_t := g_in 439 (by decide +kernel) rfl
theorem lL_23 : Cond.methodLink "SpoonScalesLaw" 23 yX6_seed ∈ g_t := g_in 443 (by decide +kernel) rfl
theorem lL_28 : Cond.methodLink "SpoonScalesLaw" 28 yX6_sit ∈ g_t := g_in 447 (by decide +kernel) rfl
theorem lX6_92 : Cond.methodLink "SpoonScales" 92 yX6_isEater ∈ g_t := g_in 451 (by decide +kernel) rfl
theorem lX6_98 : Cond.methodLink "SpoonScales" 98 yX1_keepStep ∈ g_t := g_in 455 (by decide +kernel) rfl
theorem lX1_48 : Cond.methodLink "SpoonScales$Court" 48 yX4_copyFrom ∈ g_t := g_in 459 (by decide +kernel) rfl
theorem lX4_31 : Cond.methodLink "SpoonScales$Scene" 31 arraycopyName ∈ g_t := g_in 463 (by decide +kernel) rfl
theorem lL_33 : Cond.methodLink "SpoonScalesLaw" 33 yX6_spoon ∈ g_t := g_in 466 (by decide +kernel) rfl
theorem lX6_104 : Cond.methodLink "SpoonScales" 104 yX0_spoonful ∈ g_t := g_in 470 (by decide +kernel) rfl
theorem lX0_40 : Cond.methodLink "SpoonScales$Bench" 40 yX0_roomIn ∈ g_t := g_in 474 (by decide +kernel) rfl
theorem lX0_54 : Cond.methodLink "SpoonScales$Bench" 54 yX0_ruling ∈ g_t := g_in 478 (by decide +kernel) rfl
theorem lX0_61 : Cond.methodLink "SpoonScales$Bench" 61 yX2_has ∈ g_t := g_in 482 (by decide +kernel) rfl
theorem lX0_65 : Cond.methodLink "SpoonScales$Bench" 65 yX0_nameEater ∈ g_t := g_in 486 (by decide +kernel) rfl
theorem lX0_69 : Cond.methodLink "SpoonScales$Bench" 69 yX0_reckon ∈ g_t := g_in 490 (by decide +kernel) rfl
theorem lX0_104 : Cond.methodLink "SpoonScales$Bench" 104 yX0_isValue ∈ g_t := g_in 494 (by decide +kernel) rfl
theorem lX0_107 : Cond.methodLink "SpoonScales$Bench" 107 yX0_combine ∈ g_t := g_in 497 (by decide +kernel) rfl
theorem kX0_111 : Cond.constantLong "SpoonScales$Bench" 111 (1000000) ∈ g_t := g_in 500 (by decide +kernel) rfl
theorem kX0_113 : Cond.constant "SpoonScales$Bench" 113 (1000000) ∈ g_t := g_in 501 (by decide +kernel) rfl
theorem kX0_114 : Cond.constantLong "SpoonScales$Bench" 114 (-1000000) ∈ g_t := g_in 502 (by decide +kernel) rfl
theorem kX0_116 : Cond.constant "SpoonScales$Bench" 116 (-1000000) ∈ g_t := g_in 503 (by decide +kernel) rfl
theorem lX0_44 : Cond.methodLink "SpoonScales$Bench" 44 Lib.Math.min.name ∈ g_t := g_in 504 (by decide +kernel) rfl
theorem lX0_73 : Cond.methodLink "SpoonScales$Bench" 73 Lib.Math.max.name ∈ g_t := g_in 507 (by decide +kernel) rfl
theorem lX0_50 : Cond.methodLink "SpoonScales$Bench" 50 yX0_biteOf ∈ g_t := g_in 510 (by decide +kernel) rfl
theorem lX6_108 : Cond.methodLink "SpoonScales" 108 yX1_writeSpoon ∈ g_t := g_in 514 (by decide +kernel) rfl
theorem lX6_112 : Cond.methodLink "SpoonScales" 112 yX4_eat ∈ g_t := g_in 518 (by decide +kernel) rfl
theorem lL_38 : Cond.methodLink "SpoonScalesLaw" 38 yX6_judge ∈ g_t := g_in 522 (by decide +kernel) rfl
theorem lX6_118 : Cond.methodLink "SpoonScales" 118 yX0_isGuilty ∈ g_t := g_in 526 (by decide +kernel) rfl
theorem lX0_79 : Cond.methodLink "SpoonScales$Bench" 79 yX4_tilt ∈ g_t := g_in 530 (by decide +kernel) rfl
theorem lX6_122 : Cond.methodLink "SpoonScales" 122 yX1_writeDent ∈ g_t := g_in 534 (by decide +kernel) rfl
theorem lX1_82 : Cond.methodLink "SpoonScales$Court" 82 yX4_tilt ∈ g_t := g_in 538 (by decide +kernel) rfl
theorem lL_43 : Cond.methodLink "SpoonScalesLaw" 43 yX6_flies ∈ g_t := g_in 539 (by decide +kernel) rfl
theorem lX6_126 : Cond.methodLink "SpoonScales" 126 yX4_drawPot ∈ g_t := g_in 543 (by decide +kernel) rfl
theorem lL_47 : Cond.methodLink "SpoonScalesLaw" 47 yX6_feed ∈ g_t := g_in 547 (by decide +kernel) rfl
theorem lX6_130 : Cond.methodLink "SpoonScales" 130 yX6_putBytes ∈ g_t := g_in 551 (by decide +kernel) rfl
theorem lL_52 : Cond.methodLink "SpoonScalesLaw" 52 yX6_end ∈ g_t := g_in 555 (by decide +kernel) rfl
theorem lL_56 : Cond.methodLink "SpoonScalesLaw" 56 yX6_text ∈ g_t := g_in 559 (by decide +kernel) rfl
theorem lX6_141 : Cond.methodLink "SpoonScales" 141 yX3_read ∈ g_t := g_in 563 (by decide +kernel) rfl
theorem lX3_18 : Cond.methodLink "SpoonScales$Reader" 18 Lib.Math.min.name ∈ g_t := g_in 567 (by decide +kernel) rfl
theorem lX3_41 : Cond.methodLink "SpoonScales$Reader" 41 yX2_wipe ∈ g_t := g_in 568 (by decide +kernel) rfl
theorem lX3_46 : Cond.methodLink "SpoonScales$Reader" 46 yX3_advance ∈ g_t := g_in 569 (by decide +kernel) rfl
theorem lX3_59 : Cond.methodLink "SpoonScales$Reader" 59 yX3_isLetter ∈ g_t := g_in 573 (by decide +kernel) rfl
theorem lX3_63 : Cond.methodLink "SpoonScales$Reader" 63 yX3_wordAt ∈ g_t := g_in 576 (by decide +kernel) rfl
theorem lX3_77 : Cond.methodLink "SpoonScales$Reader" 77 yJ0_length_8abf5 ∈ g_t := g_in 581 (by decide +kernel) rfl
theorem lJ0_335 : Cond.methodLink "java/lang/String" 335 yJ0_coder_7d493 ∈ g_t := g_in 585 (by decide +kernel) rfl
theorem sJ0_38 : Cond.fieldLink "java/lang/String" 38 "java/lang/String" "COMPACT_STRINGS" "Z" ∈ g_t := g_in 589 (by decide +kernel) rfl
theorem lX3_83 : Cond.methodLink "SpoonScales$Reader" 83 yJ0_charAt_5068e ∈ g_t := g_in 591 (by decide +kernel) rfl
theorem lJ0_492 : Cond.methodLink "java/lang/String" 492 yJ0_isLatin1_aae02 ∈ g_t := g_in 595 (by decide +kernel) rfl
theorem lJ0_495 : Cond.methodLink "java/lang/String" 495 yJ1_charAt_3b067 ∈ g_t := g_in 599 (by decide +kernel) rfl
theorem lJ1_9 : Cond.methodLink "java/lang/StringLatin1" 9 yJ0_checkIndex_df160 ∈ g_t := g_in 602 (by decide +kernel) rfl
theorem sJ0_1053 : Cond.fieldLink "java/lang/String" 1053 "jdk/internal/util/Preconditions" "SIOOBE_FORMATTER" "Ljava/util/function/BiFunction;" ∈ g_t := g_in 605 (by decide +kernel) rfl
theorem lJ0_1059 : Cond.methodLink "java/lang/String" 1059 yJ3_checkIndex_8e157 ∈ g_t := g_in 607 (by decide +kernel) rfl
theorem lJ0_498 : Cond.methodLink "java/lang/String" 498 yJ2_charAt_3b067 ∈ g_t := g_in 610 (by decide +kernel) rfl
theorem lJ2_67 : Cond.methodLink "java/lang/StringUTF16" 67 yJ2_checkIndex_2214a ∈ g_t := g_in 613 (by decide +kernel) rfl
theorem lJ2_48 : Cond.methodLink "java/lang/StringUTF16" 48 yJ2_length_9d52b ∈ g_t := g_in 616 (by decide +kernel) rfl
theorem lJ2_414 : Cond.methodLink "java/lang/StringUTF16" 414 yJ0_checkIndex_df160 ∈ g_t := g_in 619 (by decide +kernel) rfl
theorem lJ2_71 : Cond.methodLink "java/lang/StringUTF16" 71 yJ2_getChar_3b067 ∈ g_t := g_in 620 (by decide +kernel) rfl
theorem sJ2_44 : Cond.fieldLink "java/lang/StringUTF16" 44 "java/lang/StringUTF16" "$assertionsDisabled" "Z" ∈ g_t := g_in 623 (by decide +kernel) rfl
theorem sJ2_59 : Cond.fieldLink "java/lang/StringUTF16" 59 "java/lang/StringUTF16" "HI_BYTE_SHIFT" "I" ∈ g_t := g_in 625 (by decide +kernel) rfl
theorem sJ2_63 : Cond.fieldLink "java/lang/StringUTF16" 63 "java/lang/StringUTF16" "LO_BYTE_SHIFT" "I" ∈ g_t := g_in 627 (by decide +kernel) rfl
theorem lX3_66 : Cond.methodLink "SpoonScales$Reader" 66 yX3_isDigit ∈ g_t := g_in 629 (by decide +kernel) rfl
theorem lX3_69 : Cond.methodLink "SpoonScales$Reader" 69 yX3_readNumber ∈ g_t := g_in 632 (by decide +kernel) rfl
theorem lX3_72 : Cond.methodLink "SpoonScales$Reader" 72 yX3_readSign ∈ g_t := g_in 636 (by decide +kernel) rfl
theorem lX3_92 : Cond.methodLink "SpoonScales$Reader" 92 yJ0_indexOf_0f7a4 ∈ g_t := g_in 641 (by decide +kernel) rfl
theorem lJ0_633 : Cond.methodLink "java/lang/String" 633 yJ0_indexOf_7cf53 ∈ g_t := g_in 645 (by decide +kernel) rfl
theorem lJ0_505 : Cond.methodLink "java/lang/String" 505 yJ0_length_8abf5 ∈ g_t := g_in 649 (by decide +kernel) rfl
theorem lJ0_637 : Cond.methodLink "java/lang/String" 637 yJ1_indexOf_4cfef ∈ g_t := g_in 650 (by decide +kernel) rfl
theorem lJ1_88 : Cond.methodLink "java/lang/StringLatin1" 88 yJ1_canEncode_9a6ad ∈ g_t := g_in 653 (by decide +kernel) rfl
theorem lJ1_92 : Cond.methodLink "java/lang/StringLatin1" 92 Lib.Math.max.name ∈ g_t := g_in 656 (by decide +kernel) rfl
theorem lJ1_38 : Cond.methodLink "java/lang/StringLatin1" 38 Lib.Math.min.name ∈ g_t := g_in 657 (by decide +kernel) rfl
theorem lJ1_95 : Cond.methodLink "java/lang/StringLatin1" 95 yJ1_indexOfChar_4cfef ∈ g_t := g_in 658 (by decide +kernel) rfl
theorem lJ0_640 : Cond.methodLink "java/lang/String" 640 yJ2_indexOf_4cfef ∈ g_t := g_in 661 (by decide +kernel) rfl
theorem lJ2_224 : Cond.methodLink "java/lang/StringUTF16" 224 Lib.Math.max.name ∈ g_t := g_in 664 (by decide +kernel) rfl
theorem lJ2_183 : Cond.methodLink "java/lang/StringUTF16" 183 Lib.Math.min.name ∈ g_t := g_in 665 (by decide +kernel) rfl
theorem kJ2_227 : Cond.constant "java/lang/StringUTF16" 227 (65536) ∈ g_t := g_in 666 (by decide +kernel) rfl
theorem lJ2_228 : Cond.methodLink "java/lang/StringUTF16" 228 yJ2_indexOfChar_4cfef ∈ g_t := g_in 667 (by decide +kernel) rfl
theorem lJ2_96 : Cond.methodLink "java/lang/StringUTF16" 96 yJ2_checkBoundsBeginEnd_d044e ∈ g_t := g_in 670 (by decide +kernel) rfl
theorem lJ2_241 : Cond.methodLink "java/lang/StringUTF16" 241 yJ0_checkBoundsBeginEnd_23922 ∈ g_t := g_in 673 (by decide +kernel) rfl
theorem lJ0_1062 : Cond.methodLink "java/lang/String" 1062 yJ3_checkFromToIndex_8c36e ∈ g_t := g_in 676 (by decide +kernel) rfl
theorem lJ2_244 : Cond.methodLink "java/lang/StringUTF16" 244 yJ2_indexOfCharUnsafe_4cfef ∈ g_t := g_in 679 (by decide +kernel) rfl
theorem lJ2_232 : Cond.methodLink "java/lang/StringUTF16" 232 yJ2_indexOfSupplementary_4cfef ∈ g_t := g_in 682 (by decide +kernel) rfl
theorem lJ2_164 : Cond.methodLink "java/lang/StringUTF16" 164 yJ11_isValidCodePoint_9a6ad ∈ g_t := g_in 685 (by decide +kernel) rfl
theorem lJ2_157 : Cond.methodLink "java/lang/StringUTF16" 157 yJ11_highSurrogate_5068e ∈ g_t := g_in 688 (by decide +kernel) rfl
theorem kJ11_110 : Cond.constant "java/lang/Character" 110 (55232) ∈ g_t := g_in 691 (by decide +kernel) rfl
theorem lJ2_161 : Cond.methodLink "java/lang/StringUTF16" 161 yJ11_lowSurrogate_5068e ∈ g_t := g_in 692 (by decide +kernel) rfl
theorem kJ11_76 : Cond.constant "java/lang/Character" 76 (56320) ∈ g_t := g_in 695 (by decide +kernel) rfl
theorem lX3_52 : Cond.methodLink "SpoonScales$Reader" 52 yX3_readClause ∈ g_t := g_in 696 (by decide +kernel) rfl
theorem lX3_96 : Cond.methodLink "SpoonScales$Reader" 96 yX3_fail ∈ g_t := g_in 700 (by decide +kernel) rfl
theorem lX3_99 : Cond.methodLink "SpoonScales$Reader" 99 yX2_has ∈ g_t := g_in 704 (by decide +kernel) rfl
theorem lX3_108 : Cond.methodLink "SpoonScales$Reader" 108 yX3_readLaw ∈ g_t := g_in 705 (by decide +kernel) rfl
theorem lX3_148 : Cond.methodLink "SpoonScales$Reader" 148 yX3_readOne ∈ g_t := g_in 709 (by decide +kernel) rfl
theorem lX3_163 : Cond.methodLink "SpoonScales$Reader" 163 yX2_emit ∈ g_t := g_in 713 (by decide +kernel) rfl
theorem lX3_169 : Cond.methodLink "SpoonScales$Reader" 169 yX3_openUp ∈ g_t := g_in 719 (by decide +kernel) rfl
theorem lX3_185 : Cond.methodLink "SpoonScales$Reader" 185 yX3_putWaiting ∈ g_t := g_in 723 (by decide +kernel) rfl
theorem lX3_172 : Cond.methodLink "SpoonScales$Reader" 172 yX3_isAheadOfAsk ∈ g_t := g_in 727 (by decide +kernel) rfl
theorem lX3_151 : Cond.methodLink "SpoonScales$Reader" 151 yX3_readBetween ∈ g_t := g_in 731 (by decide +kernel) rfl
theorem lX3_176 : Cond.methodLink "SpoonScales$Reader" 176 yX3_hold ∈ g_t := g_in 735 (by decide +kernel) rfl
theorem lX3_154 : Cond.methodLink "SpoonScales$Reader" 154 yX3_bindingOf ∈ g_t := g_in 739 (by decide +kernel) rfl
theorem lX3_157 : Cond.methodLink "SpoonScales$Reader" 157 yX3_release ∈ g_t := g_in 742 (by decide +kernel) rfl
theorem lX3_182 : Cond.methodLink "SpoonScales$Reader" 182 yX3_dropWaiting ∈ g_t := g_in 746 (by decide +kernel) rfl
theorem lX3_179 : Cond.methodLink "SpoonScales$Reader" 179 yX3_isComparison ∈ g_t := g_in 750 (by decide +kernel) rfl
theorem lX3_111 : Cond.methodLink "SpoonScales$Reader" 111 yX3_readDeed ∈ g_t := g_in 753 (by decide +kernel) rfl
theorem lX3_118 : Cond.methodLink "SpoonScales$Reader" 118 yX3_readNumberOf ∈ g_t := g_in 757 (by decide +kernel) rfl
theorem lX3_121 : Cond.methodLink "SpoonScales$Reader" 121 yX3_expect ∈ g_t := g_in 761 (by decide +kernel) rfl
theorem na_byte : Cond.arrayClass .byte ∈ g_t := g_in 765 (by decide +kernel) rfl
theorem lL_61 : Cond.methodLink "SpoonScalesLaw" 61 yX6_fault ∈ g_t := g_in 766 (by decide +kernel) rfl
theorem lL_65 : Cond.methodLink "SpoonScalesLaw" 65 yX6_by ∈ g_t := g_in 770 (by decide +kernel) rfl
theorem lX6_151 : Cond.methodLink "SpoonScales" 151 yX6_isText ∈ g_t := g_in 774 (by decide +kernel) rfl
theorem lL_69 : Cond.methodLink "SpoonScalesLaw" 69 yX6_played ∈ g_t := g_in 778 (by decide +kernel) rfl
theorem lX6_162 : Cond.methodLink "SpoonScales" 162 yX6_playClause ∈ g_t := g_in 782 (by decide +kernel) rfl
theorem lX6_282 : Cond.methodLink "SpoonScales" 282 yX6_sit ∈ g_t := g_in 786 (by decide +kernel) rfl
theorem lX6_285 : Cond.methodLink "SpoonScales" 285 yX6_spoon ∈ g_t := g_in 787 (by decide +kernel) rfl
theorem lX6_288 : Cond.methodLink "SpoonScales" 288 yX6_judge ∈ g_t := g_in 788 (by decide +kernel) rfl
theorem lX6_291 : Cond.methodLink "SpoonScales" 291 yX6_flies ∈ g_t := g_in 789 (by decide +kernel) rfl
theorem lL_73 : Cond.methodLink "SpoonScalesLaw" 73 yX6_undo ∈ g_t := g_in 790 (by decide +kernel) rfl
theorem lX6_173 : Cond.methodLink "SpoonScales" 173 yX4_copyFrom ∈ g_t := g_in 794 (by decide +kernel) rfl
theorem lL_77 : Cond.methodLink "SpoonScalesLaw" 77 yX6_of ∈ g_t := g_in 795 (by decide +kernel) rfl
theorem lX6_180 : Cond.methodLink "SpoonScales" 180 yX0_roomIn ∈ g_t := g_in 799 (by decide +kernel) rfl
theorem lL_81 : Cond.methodLink "SpoonScalesLaw" 81 yX6_written ∈ g_t := g_in 800 (by decide +kernel) rfl
theorem lL_85 : Cond.methodLink "SpoonScalesLaw" 85 yX6_dent ∈ g_t := g_in 804 (by decide +kernel) rfl
theorem lL_89 : Cond.methodLink "SpoonScalesLaw" 89 yX6_called ∈ g_t := g_in 808 (by decide +kernel) rfl
theorem lX6_190 : Cond.methodLink "SpoonScales" 190 yX6_canBeCalled ∈ g_t := g_in 812 (by decide +kernel) rfl
theorem lX6_193 : Cond.methodLink "SpoonScales" 193 yJ6_bitCount_0f7a4 ∈ g_t := g_in 816 (by decide +kernel) rfl
theorem kJ6_265 : Cond.constant "java/lang/Integer" 265 (1431655765) ∈ g_t := g_in 819 (by decide +kernel) rfl
theorem kJ6_266 : Cond.constant "java/lang/Integer" 266 (858993459) ∈ g_t := g_in 820 (by decide +kernel) rfl
theorem kJ6_267 : Cond.constant "java/lang/Integer" 267 (252645135) ∈ g_t := g_in 821 (by decide +kernel) rfl
theorem lX6_199 : Cond.methodLink "SpoonScales" 199 yX5_callInBestOrder ∈ g_t := g_in 822 (by decide +kernel) rfl
theorem lX5_52 : Cond.methodLink "SpoonScales$Trial" 52 yX4_copyFrom ∈ g_t := g_in 826 (by decide +kernel) rfl
theorem lX5_73 : Cond.methodLink "SpoonScales$Trial" 73 yX5_callRest ∈ g_t := g_in 827 (by decide +kernel) rfl
theorem lX5_76 : Cond.methodLink "SpoonScales$Trial" 76 yX4_tilt ∈ g_t := g_in 831 (by decide +kernel) rfl
theorem lX5_80 : Cond.methodLink "SpoonScales$Trial" 80 Lib.Math.abs.name ∈ g_t := g_in 832 (by decide +kernel) rfl
theorem lX5_86 : Cond.methodLink "SpoonScales$Trial" 86 arraycopyName ∈ g_t := g_in 835 (by decide +kernel) rfl
theorem lX5_59 : Cond.methodLink "SpoonScales$Trial" 59 yX0_spoonful ∈ g_t := g_in 836 (by decide +kernel) rfl
theorem lX5_63 : Cond.methodLink "SpoonScales$Trial" 63 yX4_eat ∈ g_t := g_in 837 (by decide +kernel) rfl
theorem lX5_92 : Cond.methodLink "SpoonScales$Trial" 92 yX4_giveBack ∈ g_t := g_in 838 (by decide +kernel) rfl
theorem lL_93 : Cond.methodLink "SpoonScalesLaw" 93 yX6_acquitted ∈ g_t := g_in 842 (by decide +kernel) rfl
theorem lX6_208 : Cond.methodLink "SpoonScales" 208 yX5_seekAcquittal ∈ g_t := g_in 846 (by decide +kernel) rfl
theorem lX5_101 : Cond.methodLink "SpoonScales$Trial" 101 yX0_isGuilty ∈ g_t := g_in 850 (by decide +kernel) rfl
theorem lX5_108 : Cond.methodLink "SpoonScales$Trial" 108 yX5_trySpoons ∈ g_t := g_in 851 (by decide +kernel) rfl
theorem lX5_112 : Cond.methodLink "SpoonScales$Trial" 112 yX5_swaps ∈ g_t := g_in 855 (by decide +kernel) rfl
theorem lX5_116 : Cond.methodLink "SpoonScales$Trial" 116 yX5_keepFound ∈ g_t := g_in 859 (by decide +kernel) rfl
theorem lL_97 : Cond.methodLink "SpoonScalesLaw" 97 yX6_sets ∈ g_t := g_in 863 (by decide +kernel) rfl
theorem lX6_220 : Cond.methodLink "SpoonScales" 220 yX5_leavesJust ∈ g_t := g_in 867 (by decide +kernel) rfl
theorem lL_102 : Cond.methodLink "SpoonScalesLaw" 102 yX6_tested ∈ g_t := g_in 871 (by decide +kernel) rfl
theorem lX6_227 : Cond.methodLink "SpoonScales" 227 yX6_hang ∈ g_t := g_in 875 (by decide +kernel) rfl
theorem lL_106 : Cond.methodLink "SpoonScalesLaw" 106 yX6_fits ∈ g_t := g_in 878 (by decide +kernel) rfl
theorem lL_110 : Cond.methodLink "SpoonScalesLaw" 110 yX6_next ∈ g_t := g_in 882 (by decide +kernel) rfl
theorem lX6_233 : Cond.methodLink "SpoonScales" 233 yX6_mostAlike ∈ g_t := g_in 886 (by decide +kernel) rfl
theorem lX6_294 : Cond.methodLink "SpoonScales" 294 Lib.Math.max.name ∈ g_t := g_in 890 (by decide +kernel) rfl
theorem lL_114 : Cond.methodLink "SpoonScalesLaw" 114 yX6_hired ∈ g_t := g_in 891 (by decide +kernel) rfl
theorem lX6_236 : Cond.methodLink "SpoonScales" 236 yX6_priceOf ∈ g_t := g_in 895 (by decide +kernel) rfl
theorem lX6_239 : Cond.methodLink "SpoonScales" 239 yX6_roomOf ∈ g_t := g_in 899 (by decide +kernel) rfl
theorem lL_118 : Cond.methodLink "SpoonScalesLaw" 118 yX6_contrary ∈ g_t := g_in 903 (by decide +kernel) rfl
theorem lX6_242 : Cond.methodLink "SpoonScales" 242 yX1_contradict ∈ g_t := g_in 907 (by decide +kernel) rfl
theorem lL_122 : Cond.methodLink "SpoonScalesLaw" 122 yX6_odds ∈ g_t := g_in 911 (by decide +kernel) rfl
theorem kX6_246 : Cond.constantLong "SpoonScales" 246 (-1) ∈ g_t := g_in 915 (by decide +kernel) rfl
theorem lX6_248 : Cond.methodLink "SpoonScales" 248 yX6_waysTo ∈ g_t := g_in 916 (by decide +kernel) rfl
theorem lX6_299 : Cond.methodLink "SpoonScales" 299 Lib.Math.min.name ∈ g_t := g_in 920 (by decide +kernel) rfl
theorem lX6_267 : Cond.methodLink "SpoonScales" 267 yX4_tilt ∈ g_t := g_in 921 (by decide +kernel) rfl
theorem lX6_302 : Cond.methodLink "SpoonScales" 302 yX6_chosen ∈ g_t := g_in 922 (by decide +kernel) rfl
theorem sX6_305 : Cond.fieldLink "SpoonScales" 305 "SpoonScales" "CHOOSE" "[I" ∈ g_t := g_in 925 (by decide +kernel) rfl
theorem lL_127 : Cond.methodLink "SpoonScalesLaw" 127 yX6_tell ∈ g_t := g_in 927 (by decide +kernel) rfl
theorem lX6_252 : Cond.methodLink "SpoonScales" 252 yX1_forgetTold ∈ g_t := g_in 931 (by decide +kernel) rfl
theorem lL_131 : Cond.methodLink "SpoonScalesLaw" 131 yX6_liars ∈ g_t := g_in 935 (by decide +kernel) rfl
theorem lX6_261 : Cond.methodLink "SpoonScales" 261 yX1_untold ∈ g_t := g_in 939 (by decide +kernel) rfl
theorem lL_135 : Cond.methodLink "SpoonScalesLaw" 135 yX6_inWhoseName ∈ g_t := g_in 943 (by decide +kernel) rfl
theorem lL_139 : Cond.methodLink "SpoonScalesLaw" 139 yX6_image ∈ g_t := g_in 947 (by decide +kernel) rfl
theorem lX6_264 : Cond.methodLink "SpoonScales" 264 yX1_copyFrom ∈ g_t := g_in 951 (by decide +kernel) rfl
theorem lX1_55 : Cond.methodLink "SpoonScales$Court" 55 arraycopyName ∈ g_t := g_in 955 (by decide +kernel) rfl
theorem lL_143 : Cond.methodLink "SpoonScalesLaw" 143 yX6_back ∈ g_t := g_in 956 (by decide +kernel) rfl
theorem lL_147 : Cond.methodLink "SpoonScalesLaw" 147 yX6_about ∈ g_t := g_in 960 (by decide +kernel) rfl
theorem nL_10 : Cond.classLink "SpoonScalesLaw" 10 "SpoonScalesModel" ∈ g_t := g_in 964 (by decide +kernel) rfl
theorem nw_X7 : Cond.instantiable "SpoonScalesModel" 48 ∈ g_t := g_in 965 (by decide +kernel) rfl
theorem lL_12 : Cond.methodLink "SpoonScalesLaw" 12 yX7_init ∈ g_t := g_in 966 (by decide +kernel) rfl
theorem lX7_1 : Cond.methodLink "SpoonScalesModel" 1 Lib.objectInit ∈ g_t := g_in 969 (by decide +kernel) rfl
theorem lX7_106 : Cond.methodLink "SpoonScalesModel" 106 yX7_copies ∈ g_t := g_in 970 (by decide +kernel) rfl
theorem fX7_7 : g_F "SpoonScalesModel" 7 7 0 (.array .int) true := ⟨_, rfl, by decide, g_in 974 (by decide +kernel) rfl, rfl, rfl⟩
theorem fX7_13 : g_F "SpoonScalesModel" 13 7 1 (.array .int) true := ⟨_, rfl, by decide, g_in 975 (by decide +kernel) rfl, rfl, rfl⟩
theorem fX7_16 : g_F "SpoonScalesModel" 16 7 2 (.array .byte) true := ⟨_, rfl, by decide, g_in 976 (by decide +kernel) rfl, rfl, rfl⟩
theorem fX7_118 : g_F "SpoonScalesModel" 118 7 3 (.int) false := ⟨_, rfl, by decide, g_in 977 (by decide +kernel) rfl, rfl, rfl⟩
theorem fX7_20 : g_F "SpoonScalesModel" 20 7 4 (.int) false := ⟨_, rfl, by decide, g_in 978 (by decide +kernel) rfl, rfl, rfl⟩
theorem fX7_24 : g_F "SpoonScalesModel" 24 7 5 (.int) false := ⟨_, rfl, by decide, g_in 979 (by decide +kernel) rfl, rfl, rfl⟩
theorem fX7_27 : g_F "SpoonScalesModel" 27 7 6 (.array .int) true := ⟨_, rfl, by decide, g_in 980 (by decide +kernel) rfl, rfl, rfl⟩
theorem fX7_30 : g_F "SpoonScalesModel" 30 7 7 (.array .int) true := ⟨_, rfl, by decide, g_in 981 (by decide +kernel) rfl, rfl, rfl⟩
theorem fX7_33 : g_F "SpoonScalesModel" 33 7 8 (.array .int) true := ⟨_, rfl, by decide, g_in 982 (by decide +kernel) rfl, rfl, rfl⟩
theorem fX7_36 : g_F "SpoonScalesModel" 36 7 9 (.array .int) true := ⟨_, rfl, by decide, g_in 983 (by decide +kernel) rfl, rfl, rfl⟩
theorem fX7_39 : g_F "SpoonScalesModel" 39 7 10 (.array .int) true := ⟨_, rfl, by decide, g_in 984 (by decide +kernel) rfl, rfl, rfl⟩
theorem fX7_42 : g_F "SpoonScalesModel" 42 7 11 (.array .int) true := ⟨_, rfl, by decide, g_in 985 (by decide +kernel) rfl, rfl, rfl⟩
theorem fX7_45 : g_F "SpoonScalesModel" 45 7 12 (.array .int) true := ⟨_, rfl, by decide, g_in 986 (by decide +kernel) rfl, rfl, rfl⟩
theorem fX7_176 : g_F "SpoonScalesModel" 176 7 13 (.int) false := ⟨_, rfl, by decide, g_in 987 (by decide +kernel) rfl, rfl, rfl⟩
theorem fX7_173 : g_F "SpoonScalesModel" 173 7 14 (.int) false := ⟨_, rfl, by decide, g_in 988 (by decide +kernel) rfl, rfl, rfl⟩
theorem fX7_179 : g_F "SpoonScalesModel" 179 7 15 (.int) false := ⟨_, rfl, by decide, g_in 989 (by decide +kernel) rfl, rfl, rfl⟩
theorem fX7_182 : g_F "SpoonScalesModel" 182 7 16 (.int) false := ⟨_, rfl, by decide, g_in 990 (by decide +kernel) rfl, rfl, rfl⟩
theorem fX7_194 : g_F "SpoonScalesModel" 194 7 17 (.int) false := ⟨_, rfl, by decide, g_in 991 (by decide +kernel) rfl, rfl, rfl⟩
theorem fX7_198 : g_F "SpoonScalesModel" 198 7 18 (.int) false := ⟨_, rfl, by decide, g_in 992 (by decide +kernel) rfl, rfl, rfl⟩
theorem fX7_201 : g_F "SpoonScalesModel" 201 7 19 (.int) false := ⟨_, rfl, by decide, g_in 993 (by decide +kernel) rfl, rfl, rfl⟩
theorem fX7_210 : g_F "SpoonScalesModel" 210 7 20 (.int) false := ⟨_, rfl, by decide, g_in 994 (by decide +kernel) rfl, rfl, rfl⟩
theorem fX7_207 : g_F "SpoonScalesModel" 207 7 21 (.int) false := ⟨_, rfl, by decide, g_in 995 (by decide +kernel) rfl, rfl, rfl⟩
theorem fX7_48 : g_F "SpoonScalesModel" 48 7 22 (.array .int) true := ⟨_, rfl, by decide, g_in 996 (by decide +kernel) rfl, rfl, rfl⟩
theorem fX7_51 : g_F "SpoonScalesModel" 51 7 23 (.array .int) true := ⟨_, rfl, by decide, g_in 997 (by decide +kernel) rfl, rfl, rfl⟩
theorem fX7_222 : g_F "SpoonScalesModel" 222 7 24 (.int) false := ⟨_, rfl, by decide, g_in 998 (by decide +kernel) rfl, rfl, rfl⟩
theorem fX7_54 : g_F "SpoonScalesModel" 54 7 25 (.array .int) true := ⟨_, rfl, by decide, g_in 999 (by decide +kernel) rfl, rfl, rfl⟩
theorem fX7_57 : g_F "SpoonScalesModel" 57 7 26 (.array .int) true := ⟨_, rfl, by decide, g_in 1000 (by decide +kernel) rfl, rfl, rfl⟩
theorem fX7_242 : g_F "SpoonScalesModel" 242 7 27 (.int) false := ⟨_, rfl, by decide, g_in 1001 (by decide +kernel) rfl, rfl, rfl⟩
theorem fX7_274 : g_F "SpoonScalesModel" 274 7 28 (.int) false := ⟨_, rfl, by decide, g_in 1002 (by decide +kernel) rfl, rfl, rfl⟩
theorem fX7_248 : g_F "SpoonScalesModel" 248 7 29 (.int) false := ⟨_, rfl, by decide, g_in 1003 (by decide +kernel) rfl, rfl, rfl⟩
theorem fX7_60 : g_F "SpoonScalesModel" 60 7 30 (.array .int) true := ⟨_, rfl, by decide, g_in 1004 (by decide +kernel) rfl, rfl, rfl⟩
theorem fX7_63 : g_F "SpoonScalesModel" 63 7 31 (.array .int) true := ⟨_, rfl, by decide, g_in 1005 (by decide +kernel) rfl, rfl, rfl⟩
theorem fX7_66 : g_F "SpoonScalesModel" 66 7 32 (.array .int) true := ⟨_, rfl, by decide, g_in 1006 (by decide +kernel) rfl, rfl, rfl⟩
theorem fX7_69 : g_F "SpoonScalesModel" 69 7 33 (.array .int) true := ⟨_, rfl, by decide, g_in 1007 (by decide +kernel) rfl, rfl, rfl⟩
theorem fX7_204 : g_F "SpoonScalesModel" 204 7 34 (.int) false := ⟨_, rfl, by decide, g_in 1008 (by decide +kernel) rfl, rfl, rfl⟩
theorem fX7_72 : g_F "SpoonScalesModel" 72 7 35 (.array .int) true := ⟨_, rfl, by decide, g_in 1009 (by decide +kernel) rfl, rfl, rfl⟩
theorem fX7_75 : g_F "SpoonScalesModel" 75 7 36 (.array .int) true := ⟨_, rfl, by decide, g_in 1010 (by decide +kernel) rfl, rfl, rfl⟩
theorem fX7_78 : g_F "SpoonScalesModel" 78 7 37 (.array .int) true := ⟨_, rfl, by decide, g_in 1011 (by decide +kernel) rfl, rfl, rfl⟩
theorem fX7_81 : g_F "SpoonScalesModel" 81 7 38 (.array .long) true := ⟨_, rfl, by decide, g_in 1012 (by decide +kernel) rfl, rfl, rfl⟩
theorem fX7_85 : g_F "SpoonScalesModel" 85 7 39 (.array .int) true := ⟨_, rfl, by decide, g_in 1013 (by decide +kernel) rfl, rfl, rfl⟩
theorem fX7_88 : g_F "SpoonScalesModel" 88 7 40 (.array .int) true := ⟨_, rfl, by decide, g_in 1014 (by decide +kernel) rfl, rfl, rfl⟩
theorem fX7_314 : g_F "SpoonScalesModel" 314 7 41 (.int) false := ⟨_, rfl, by decide, g_in 1015 (by decide +kernel) rfl, rfl, rfl⟩
theorem fX7_91 : g_F "SpoonScalesModel" 91 7 42 (.array .int) true := ⟨_, rfl, by decide, g_in 1016 (by decide +kernel) rfl, rfl, rfl⟩
theorem fX7_94 : g_F "SpoonScalesModel" 94 7 43 (.array .int) true := ⟨_, rfl, by decide, g_in 1017 (by decide +kernel) rfl, rfl, rfl⟩
theorem fX7_97 : g_F "SpoonScalesModel" 97 7 44 (.array .int) true := ⟨_, rfl, by decide, g_in 1018 (by decide +kernel) rfl, rfl, rfl⟩
theorem fX7_100 : g_F "SpoonScalesModel" 100 7 45 (.array .int) true := ⟨_, rfl, by decide, g_in 1019 (by decide +kernel) rfl, rfl, rfl⟩
theorem fX7_103 : g_F "SpoonScalesModel" 103 7 46 (.array .int) true := ⟨_, rfl, by decide, g_in 1020 (by decide +kernel) rfl, rfl, rfl⟩
theorem fX7_382 : g_F "SpoonScalesModel" 382 7 47 (.int) false := ⟨_, rfl, by decide, g_in 1021 (by decide +kernel) rfl, rfl, rfl⟩
theorem na_long : Cond.arrayClass .long ∈ g_t := g_in 1119 (by decide +kernel) rfl
theorem lL_17 : Cond.methodLink "SpoonScalesLaw" 17 yX7_pot ∈ g_t := g_in 1120 (by decide +kernel) rfl
theorem lX7_114 : Cond.methodLink "SpoonScalesModel" 114 yX7_isOne ∈ g_t := g_in 1124 (by decide +kernel) rfl
theorem lX7_110 : Cond.methodLink "SpoonScalesModel" 110 yX7_in ∈ g_t := g_in 1127 (by decide +kernel) rfl
theorem lL_22 : Cond.methodLink "SpoonScalesLaw" 22 yX7_eater ∈ g_t := g_in 1130 (by decide +kernel) rfl
theorem lL_27 : Cond.methodLink "SpoonScalesLaw" 27 yX7_seed ∈ g_t := g_in 1134 (by decide +kernel) rfl
theorem lL_76 : Cond.methodLink "SpoonScalesLaw" 76 yX7_undo ∈ g_t := g_in 1138 (by decide +kernel) rfl
theorem lL_51 : Cond.methodLink "SpoonScalesLaw" 51 yX7_feed ∈ g_t := g_in 1142 (by decide +kernel) rfl
theorem lX7_121 : Cond.methodLink "SpoonScalesModel" 121 yX7_put ∈ g_t := g_in 1146 (by decide +kernel) rfl
theorem lL_55 : Cond.methodLink "SpoonScalesLaw" 55 yX7_end ∈ g_t := g_in 1150 (by decide +kernel) rfl
theorem lL_60 : Cond.methodLink "SpoonScalesLaw" 60 yX7_text ∈ g_t := g_in 1154 (by decide +kernel) rfl
theorem lX7_219 : Cond.methodLink "SpoonScalesModel" 219 yX7_nextToken ∈ g_t := g_in 1158 (by decide +kernel) rfl
theorem lX7_185 : Cond.methodLink "SpoonScalesModel" 185 yX7_isLetter ∈ g_t := g_in 1162 (by decide +kernel) rfl
theorem kX7_188 : Cond.constantLong "SpoonScalesModel" 188 (64) ∈ g_t := g_in 1165 (by decide +kernel) rfl
theorem lX7_190 : Cond.methodLink "SpoonScalesModel" 190 yX7_wordOf ∈ g_t := g_in 1166 (by decide +kernel) rfl
theorem kX7_125 : Cond.constantLong "SpoonScalesModel" 125 (9837875) ∈ g_t := g_in 1169 (by decide +kernel) rfl
theorem kX7_127 : Cond.constantLong "SpoonScalesModel" 127 (683591987) ∈ g_t := g_in 1170 (by decide +kernel) rfl
theorem kX7_129 : Cond.constantLong "SpoonScalesModel" 129 (42776055097) ∈ g_t := g_in 1171 (by decide +kernel) rfl
theorem kX7_131 : Cond.constantLong "SpoonScalesModel" 131 (211572) ∈ g_t := g_in 1172 (by decide +kernel) rfl
theorem kX7_133 : Cond.constantLong "SpoonScalesModel" 133 (868416494) ∈ g_t := g_in 1173 (by decide +kernel) rfl
theorem kX7_135 : Cond.constantLong "SpoonScalesModel" 135 (718686693) ∈ g_t := g_in 1174 (by decide +kernel) rfl
theorem kX7_137 : Cond.constantLong "SpoonScalesModel" 137 (649238899) ∈ g_t := g_in 1175 (by decide +kernel) rfl
theorem kX7_139 : Cond.constantLong "SpoonScalesModel" 139 (2164) ∈ g_t := g_in 1176 (by decide +kernel) rfl
theorem kX7_141 : Cond.constantLong "SpoonScalesModel" 141 (3046) ∈ g_t := g_in 1177 (by decide +kernel) rfl
theorem kX7_143 : Cond.constantLong "SpoonScalesModel" 143 (3058) ∈ g_t := g_in 1178 (by decide +kernel) rfl
theorem kX7_145 : Cond.constantLong "SpoonScalesModel" 145 (138148) ∈ g_t := g_in 1179 (by decide +kernel) rfl
theorem kX7_147 : Cond.constantLong "SpoonScalesModel" 147 (191476) ∈ g_t := g_in 1180 (by decide +kernel) rfl
theorem kX7_149 : Cond.constantLong "SpoonScalesModel" 149 (629623154) ∈ g_t := g_in 1181 (by decide +kernel) rfl
theorem kX7_151 : Cond.constantLong "SpoonScalesModel" 151 (43851086194) ∈ g_t := g_in 1182 (by decide +kernel) rfl
theorem kX7_153 : Cond.constantLong "SpoonScalesModel" 153 (227925014493747) ∈ g_t := g_in 1183 (by decide +kernel) rfl
theorem kX7_155 : Cond.constantLong "SpoonScalesModel" 155 (629623150) ∈ g_t := g_in 1184 (by decide +kernel) rfl
theorem kX7_157 : Cond.constantLong "SpoonScalesModel" 157 (11443108) ∈ g_t := g_in 1185 (by decide +kernel) rfl
theorem kX7_159 : Cond.constantLong "SpoonScalesModel" 159 (11688372) ∈ g_t := g_in 1186 (by decide +kernel) rfl
theorem kX7_161 : Cond.constantLong "SpoonScalesModel" 161 (55578655667) ∈ g_t := g_in 1187 (by decide +kernel) rfl
theorem kX7_163 : Cond.constantLong "SpoonScalesModel" 163 (13539621) ∈ g_t := g_in 1188 (by decide +kernel) rfl
theorem kX7_165 : Cond.constantLong "SpoonScalesModel" 165 (13802292) ∈ g_t := g_in 1189 (by decide +kernel) rfl
theorem kX7_167 : Cond.constantLong "SpoonScalesModel" 167 (683600249) ∈ g_t := g_in 1190 (by decide +kernel) rfl
theorem kX7_169 : Cond.constantLong "SpoonScalesModel" 169 (13507380) ∈ g_t := g_in 1191 (by decide +kernel) rfl
theorem kX7_171 : Cond.constantLong "SpoonScalesModel" 171 (613870899) ∈ g_t := g_in 1192 (by decide +kernel) rfl
theorem kX7_197 : Cond.constant "SpoonScalesModel" 197 (99999) ∈ g_t := g_in 1193 (by decide +kernel) rfl
theorem lX7_287 : Cond.methodLink "SpoonScalesModel" 287 yX7_asks ∈ g_t := g_in 1194 (by decide +kernel) rfl
theorem lX7_236 : Cond.methodLink "SpoonScalesModel" 236 yX7_isWord ∈ g_t := g_in 1198 (by decide +kernel) rfl
theorem lX7_239 : Cond.methodLink "SpoonScalesModel" 239 yX7_opensSign ∈ g_t := g_in 1202 (by decide +kernel) rfl
theorem lX7_213 : Cond.methodLink "SpoonScalesModel" 213 yX7_errs ∈ g_t := g_in 1206 (by decide +kernel) rfl
theorem lX7_216 : Cond.methodLink "SpoonScalesModel" 216 yX7_opensFrame ∈ g_t := g_in 1210 (by decide +kernel) rfl
theorem lX7_290 : Cond.methodLink "SpoonScalesModel" 290 yX7_begins ∈ g_t := g_in 1214 (by decide +kernel) rfl
theorem lX7_229 : Cond.methodLink "SpoonScalesModel" 229 yX7_emits ∈ g_t := g_in 1218 (by decide +kernel) rfl
theorem lX7_245 : Cond.methodLink "SpoonScalesModel" 245 yX7_oneIsOver ∈ g_t := g_in 1222 (by decide +kernel) rfl
theorem lX7_258 : Cond.methodLink "SpoonScalesModel" 258 yX7_top ∈ g_t := g_in 1226 (by decide +kernel) rfl
theorem lX7_251 : Cond.methodLink "SpoonScalesModel" 251 yX7_mayName ∈ g_t := g_in 1230 (by decide +kernel) rfl
theorem lX7_255 : Cond.methodLink "SpoonScalesModel" 255 yX7_isSign ∈ g_t := g_in 1233 (by decide +kernel) rfl
theorem lX7_293 : Cond.methodLink "SpoonScalesModel" 293 yX7_goesOn ∈ g_t := g_in 1237 (by decide +kernel) rfl
theorem lX7_262 : Cond.methodLink "SpoonScalesModel" 262 yX7_waitsFor ∈ g_t := g_in 1241 (by decide +kernel) rfl
theorem lX7_225 : Cond.methodLink "SpoonScalesModel" 225 yX7_rank ∈ g_t := g_in 1245 (by decide +kernel) rfl
theorem lX7_233 : Cond.methodLink "SpoonScalesModel" 233 yX7_works ∈ g_t := g_in 1248 (by decide +kernel) rfl
theorem lX7_265 : Cond.methodLink "SpoonScalesModel" 265 yX7_isAsking ∈ g_t := g_in 1252 (by decide +kernel) rfl
theorem lX7_268 : Cond.methodLink "SpoonScalesModel" 268 yX7_askIsOver ∈ g_t := g_in 1255 (by decide +kernel) rfl
theorem lX7_271 : Cond.methodLink "SpoonScalesModel" 271 yX7_clauseIsOver ∈ g_t := g_in 1259 (by decide +kernel) rfl
theorem lX7_296 : Cond.methodLink "SpoonScalesModel" 296 yX7_asksOn ∈ g_t := g_in 1263 (by decide +kernel) rfl
theorem lX7_299 : Cond.methodLink "SpoonScalesModel" 299 yX7_clause ∈ g_t := g_in 1267 (by decide +kernel) rfl
theorem lX7_277 : Cond.methodLink "SpoonScalesModel" 277 yX7_wasTold ∈ g_t := g_in 1271 (by decide +kernel) rfl
theorem lX7_280 : Cond.methodLink "SpoonScalesModel" 280 yX7_number ∈ g_t := g_in 1275 (by decide +kernel) rfl
theorem lX7_284 : Cond.methodLink "SpoonScalesModel" 284 yX7_wants ∈ g_t := g_in 1279 (by decide +kernel) rfl
theorem lL_64 : Cond.methodLink "SpoonScalesLaw" 64 yX7_fault ∈ g_t := g_in 1283 (by decide +kernel) rfl
theorem lL_68 : Cond.methodLink "SpoonScalesLaw" 68 yX7_by ∈ g_t := g_in 1287 (by decide +kernel) rfl
theorem lL_32 : Cond.methodLink "SpoonScalesLaw" 32 yX7_sit ∈ g_t := g_in 1291 (by decide +kernel) rfl
theorem lX7_343 : Cond.methodLink "SpoonScalesModel" 343 yX7_isEater ∈ g_t := g_in 1295 (by decide +kernel) rfl
theorem lX7_346 : Cond.methodLink "SpoonScalesModel" 346 yX7_keepsStep ∈ g_t := g_in 1299 (by decide +kernel) rfl
theorem lL_37 : Cond.methodLink "SpoonScalesLaw" 37 yX7_spoon ∈ g_t := g_in 1303 (by decide +kernel) rfl
theorem lX7_349 : Cond.methodLink "SpoonScalesModel" 349 yX7_laysWorld ∈ g_t := g_in 1307 (by decide +kernel) rfl
theorem lX7_337 : Cond.methodLink "SpoonScalesModel" 337 yX7_spoonOf ∈ g_t := g_in 1311 (by decide +kernel) rfl
theorem lX7_331 : Cond.methodLink "SpoonScalesModel" 331 yX7_stillHolds ∈ g_t := g_in 1315 (by decide +kernel) rfl
theorem lX7_317 : Cond.methodLink "SpoonScalesModel" 317 yX7_ordersOf ∈ g_t := g_in 1319 (by decide +kernel) rfl
theorem lX7_320 : Cond.methodLink "SpoonScalesModel" 320 yX7_names ∈ g_t := g_in 1323 (by decide +kernel) rfl
theorem lX7_323 : Cond.methodLink "SpoonScalesModel" 323 yX7_saysOf ∈ g_t := g_in 1327 (by decide +kernel) rfl
theorem lX7_310 : Cond.methodLink "SpoonScalesModel" 310 yX7_worked ∈ g_t := g_in 1331 (by decide +kernel) rfl
theorem lX7_306 : Cond.methodLink "SpoonScalesModel" 306 yX7_bound ∈ g_t := g_in 1334 (by decide +kernel) rfl
theorem kX7_302 : Cond.constantLong "SpoonScalesModel" 302 (1000000) ∈ g_t := g_in 1337 (by decide +kernel) rfl
theorem kX7_304 : Cond.constantLong "SpoonScalesModel" 304 (-1000000) ∈ g_t := g_in 1338 (by decide +kernel) rfl
theorem lX7_327 : Cond.methodLink "SpoonScalesModel" 327 yX7_held ∈ g_t := g_in 1339 (by decide +kernel) rfl
theorem lX7_334 : Cond.methodLink "SpoonScalesModel" 334 yX7_least ∈ g_t := g_in 1342 (by decide +kernel) rfl
theorem lL_42 : Cond.methodLink "SpoonScalesLaw" 42 yX7_judge ∈ g_t := g_in 1345 (by decide +kernel) rfl
theorem lX7_352 : Cond.methodLink "SpoonScalesModel" 352 yX7_isGuilty ∈ g_t := g_in 1349 (by decide +kernel) rfl
theorem lX7_340 : Cond.methodLink "SpoonScalesModel" 340 yX7_tilt ∈ g_t := g_in 1353 (by decide +kernel) rfl
theorem lL_46 : Cond.methodLink "SpoonScalesLaw" 46 yX7_flies ∈ g_t := g_in 1357 (by decide +kernel) rfl
theorem lX7_355 : Cond.methodLink "SpoonScalesModel" 355 yX7_draw ∈ g_t := g_in 1361 (by decide +kernel) rfl
theorem lL_72 : Cond.methodLink "SpoonScalesLaw" 72 yX7_played ∈ g_t := g_in 1365 (by decide +kernel) rfl
theorem lX7_358 : Cond.methodLink "SpoonScalesModel" 358 yX7_sit ∈ g_t := g_in 1369 (by decide +kernel) rfl
theorem lX7_361 : Cond.methodLink "SpoonScalesModel" 361 yX7_spoon ∈ g_t := g_in 1370 (by decide +kernel) rfl
theorem lX7_364 : Cond.methodLink "SpoonScalesModel" 364 yX7_judge ∈ g_t := g_in 1371 (by decide +kernel) rfl
theorem lX7_367 : Cond.methodLink "SpoonScalesModel" 367 yX7_flies ∈ g_t := g_in 1372 (by decide +kernel) rfl
theorem lL_80 : Cond.methodLink "SpoonScalesLaw" 80 yX7_of ∈ g_t := g_in 1373 (by decide +kernel) rfl
theorem lL_84 : Cond.methodLink "SpoonScalesLaw" 84 yX7_written ∈ g_t := g_in 1377 (by decide +kernel) rfl
theorem lL_88 : Cond.methodLink "SpoonScalesLaw" 88 yX7_dent ∈ g_t := g_in 1381 (by decide +kernel) rfl
theorem lL_92 : Cond.methodLink "SpoonScalesLaw" 92 yX7_called ∈ g_t := g_in 1385 (by decide +kernel) rfl
theorem lX7_370 : Cond.methodLink "SpoonScalesModel" 370 yX7_rows ∈ g_t := g_in 1389 (by decide +kernel) rfl
theorem lX7_373 : Cond.methodLink "SpoonScalesModel" 373 yX7_laysOrder ∈ g_t := g_in 1392 (by decide +kernel) rfl
theorem lX7_376 : Cond.methodLink "SpoonScalesModel" 376 yX7_eats ∈ g_t := g_in 1396 (by decide +kernel) rfl
theorem lX7_379 : Cond.methodLink "SpoonScalesModel" 379 yX7_size ∈ g_t := g_in 1400 (by decide +kernel) rfl
theorem lL_96 : Cond.methodLink "SpoonScalesLaw" 96 yX7_acquitted ∈ g_t := g_in 1403 (by decide +kernel) rfl
theorem lX7_385 : Cond.methodLink "SpoonScalesModel" 385 yX7_acquits ∈ g_t := g_in 1407 (by decide +kernel) rfl
theorem lL_101 : Cond.methodLink "SpoonScalesLaw" 101 yX7_sets ∈ g_t := g_in 1411 (by decide +kernel) rfl
theorem lL_105 : Cond.methodLink "SpoonScalesLaw" 105 yX7_tested ∈ g_t := g_in 1415 (by decide +kernel) rfl
theorem lL_109 : Cond.methodLink "SpoonScalesLaw" 109 yX7_fits ∈ g_t := g_in 1419 (by decide +kernel) rfl
theorem lX7_388 : Cond.methodLink "SpoonScalesModel" 388 yX7_hangs ∈ g_t := g_in 1423 (by decide +kernel) rfl
theorem lL_113 : Cond.methodLink "SpoonScalesLaw" 113 yX7_next ∈ g_t := g_in 1426 (by decide +kernel) rfl
theorem lX7_391 : Cond.methodLink "SpoonScalesModel" 391 yX7_fits ∈ g_t := g_in 1430 (by decide +kernel) rfl
theorem lX7_394 : Cond.methodLink "SpoonScalesModel" 394 yX7_mostAlike ∈ g_t := g_in 1431 (by decide +kernel) rfl
theorem lL_117 : Cond.methodLink "SpoonScalesLaw" 117 yX7_hired ∈ g_t := g_in 1434 (by decide +kernel) rfl
theorem lL_121 : Cond.methodLink "SpoonScalesLaw" 121 yX7_contrary ∈ g_t := g_in 1438 (by decide +kernel) rfl
theorem lL_126 : Cond.methodLink "SpoonScalesLaw" 126 yX7_odds ∈ g_t := g_in 1442 (by decide +kernel) rfl
theorem kX7_397 : Cond.constantLong "SpoonScalesModel" 397 (-1) ∈ g_t := g_in 1446 (by decide +kernel) rfl
theorem lX7_399 : Cond.methodLink "SpoonScalesModel" 399 yX7_common ∈ g_t := g_in 1447 (by decide +kernel) rfl
theorem lL_130 : Cond.methodLink "SpoonScalesLaw" 130 yX7_tell ∈ g_t := g_in 1450 (by decide +kernel) rfl
theorem lL_134 : Cond.methodLink "SpoonScalesLaw" 134 yX7_liars ∈ g_t := g_in 1454 (by decide +kernel) rfl
theorem lX7_403 : Cond.methodLink "SpoonScalesModel" 403 yX7_toldMore ∈ g_t := g_in 1458 (by decide +kernel) rfl
theorem lL_138 : Cond.methodLink "SpoonScalesLaw" 138 yX7_inWhoseName ∈ g_t := g_in 1462 (by decide +kernel) rfl
theorem lL_142 : Cond.methodLink "SpoonScalesLaw" 142 yX7_image ∈ g_t := g_in 1466 (by decide +kernel) rfl
theorem lL_146 : Cond.methodLink "SpoonScalesLaw" 146 yX7_back ∈ g_t := g_in 1470 (by decide +kernel) rfl
theorem lL_150 : Cond.methodLink "SpoonScalesLaw" 150 yX7_about ∈ g_t := g_in 1474 (by decide +kernel) rfl
theorem sJ0_9 : Cond.fieldLink "java/lang/String" 9 "java/lang/String" "value" "[B" ∈ g_t := g_in 1478 (by decide +kernel) rfl
theorem sJ0_15 : Cond.fieldLink "java/lang/String" 15 "java/lang/String" "coder" "B" ∈ g_t := g_in 1479 (by decide +kernel) rfl
theorem nn_copy : Cond.native arraycopyName ∈ g_t := g_in 465 (by decide +kernel) rfl
theorem ns_copy : Cond.static arraycopyName ∈ g_t := g_in 464 (by decide +kernel) rfl
theorem ns_max : Cond.static Lib.Math.max.name ∈ g_t := g_in 508 (by decide +kernel) rfl
theorem nc_max : Cond.code Lib.Math.max.name Lib.Math.max.code 2 (some .int) ∈ g_t := g_in 509 (by decide +kernel) rfl
theorem ns_min : Cond.static Lib.Math.min.name ∈ g_t := g_in 505 (by decide +kernel) rfl
theorem nc_min : Cond.code Lib.Math.min.name Lib.Math.min.code 2 (some .int) ∈ g_t := g_in 506 (by decide +kernel) rfl
theorem ns_abs : Cond.static Lib.Math.abs.name ∈ g_t := g_in 833 (by decide +kernel) rfl
theorem nc_abs : Cond.code Lib.Math.abs.name Lib.Math.abs.code 1 (some .int) ∈ g_t := g_in 834 (by decide +kernel) rfl
theorem ns_obj : Cond.instanceMethod Lib.objectInit ∈ g_t := g_in 97 (by decide +kernel) rfl
theorem nc_obj : Cond.code Lib.objectInit ⟨#[0xb1]⟩ 1 none ∈ g_t := g_in 98 (by decide +kernel) rfl
end
