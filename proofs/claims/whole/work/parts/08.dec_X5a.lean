theorem dX5_init_0 : decode cX5_init 0 = .ok (.aload_n 0, 1) := by decide +kernel
theorem dX5_init_1 : decode cX5_init 1 = .ok (.invokespecial 3, 3) := by decide +kernel
theorem dX5_init_4 : decode cX5_init 4 = .ok (.aload_n 0, 1) := by decide +kernel
theorem dX5_init_5 : decode cX5_init 5 = .ok (.new 9, 3) := by decide +kernel
theorem dX5_init_8 : decode cX5_init 8 = .ok (.dup, 1) := by decide +kernel
theorem dX5_init_9 : decode cX5_init 9 = .ok (.invokespecial 11, 3) := by decide +kernel
theorem dX5_init_12 : decode cX5_init 12 = .ok (.putfield 12, 3) := by decide +kernel
theorem dX5_init_15 : decode cX5_init 15 = .ok (.aload_n 0, 1) := by decide +kernel
theorem dX5_init_16 : decode cX5_init 16 = .ok (.aload_n 0, 1) := by decide +kernel
theorem dX5_init_17 : decode cX5_init 17 = .ok (.getfield 12, 3) := by decide +kernel
theorem dX5_init_20 : decode cX5_init 20 = .ok (.getfield 18, 3) := by decide +kernel
theorem dX5_init_23 : decode cX5_init 23 = .ok (.putfield 22, 3) := by decide +kernel
theorem dX5_init_26 : decode cX5_init 26 = .ok (.aload_n 0, 1) := by decide +kernel
theorem dX5_init_27 : decode cX5_init 27 = .ok (.new 23, 3) := by decide +kernel
theorem dX5_init_30 : decode cX5_init 30 = .ok (.dup, 1) := by decide +kernel
theorem dX5_init_31 : decode cX5_init 31 = .ok (.invokespecial 25, 3) := by decide +kernel
theorem dX5_init_34 : decode cX5_init 34 = .ok (.putfield 26, 3) := by decide +kernel
theorem dX5_init_37 : decode cX5_init 37 = .ok (.aload_n 0, 1) := by decide +kernel
theorem dX5_init_38 : decode cX5_init 38 = .ok (.bipush 6, 2) := by decide +kernel
theorem dX5_init_40 : decode cX5_init 40 = .ok (.newarray .int, 2) := by decide +kernel
theorem dX5_init_42 : decode cX5_init 42 = .ok (.putfield 30, 3) := by decide +kernel
theorem dX5_init_45 : decode cX5_init 45 = .ok (.aload_n 0, 1) := by decide +kernel
theorem dX5_init_46 : decode cX5_init 46 = .ok (.bipush 6, 2) := by decide +kernel
theorem dX5_init_48 : decode cX5_init 48 = .ok (.newarray .int, 2) := by decide +kernel
theorem dX5_init_50 : decode cX5_init 50 = .ok (.putfield 34, 3) := by decide +kernel
theorem dX5_init_53 : decode cX5_init 53 = .ok (.aload_n 0, 1) := by decide +kernel
theorem dX5_init_54 : decode cX5_init 54 = .ok (.bipush 6, 2) := by decide +kernel
theorem dX5_init_56 : decode cX5_init 56 = .ok (.newarray .int, 2) := by decide +kernel
theorem dX5_init_58 : decode cX5_init 58 = .ok (.putfield 37, 3) := by decide +kernel
theorem dX5_init_61 : decode cX5_init 61 = .ok (.aload_n 0, 1) := by decide +kernel
theorem dX5_init_62 : decode cX5_init 62 = .ok (.iconst 4, 1) := by decide +kernel
theorem dX5_init_63 : decode cX5_init 63 = .ok (.newarray .int, 2) := by decide +kernel
theorem dX5_init_65 : decode cX5_init 65 = .ok (.putfield 40, 3) := by decide +kernel
theorem dX5_init_68 : decode cX5_init 68 = .ok (.aload_n 0, 1) := by decide +kernel
theorem dX5_init_69 : decode cX5_init 69 = .ok (.iconst (-1), 1) := by decide +kernel
theorem dX5_init_70 : decode cX5_init 70 = .ok (.putfield 43, 3) := by decide +kernel
theorem dX5_init_73 : decode cX5_init 73 = .ok (.return_, 1) := by decide +kernel
theorem dX5_leavesJust_0 : decode cX5_leavesJust 0 = .ok (.aload_n 0, 1) := by decide +kernel
theorem dX5_leavesJust_1 : decode cX5_leavesJust 1 = .ok (.getfield 26, 3) := by decide +kernel
theorem dX5_leavesJust_4 : decode cX5_leavesJust 4 = .ok (.aload_n 0, 1) := by decide +kernel
theorem dX5_leavesJust_5 : decode cX5_leavesJust 5 = .ok (.getfield 22, 3) := by decide +kernel
theorem dX5_leavesJust_8 : decode cX5_leavesJust 8 = .ok (.getfield 47, 3) := by decide +kernel
theorem dX5_leavesJust_11 : decode cX5_leavesJust 11 = .ok (.invokevirtual 52, 3) := by decide +kernel
theorem dX5_leavesJust_14 : decode cX5_leavesJust 14 = .ok (.iload_n 2, 1) := by decide +kernel
theorem dX5_leavesJust_15 : decode cX5_leavesJust 15 = .ok (.iconst 1, 1) := by decide +kernel
theorem dX5_leavesJust_16 : decode cX5_leavesJust 16 = .ok (.iand, 1) := by decide +kernel
theorem dX5_leavesJust_17 : decode cX5_leavesJust 17 = .ok (.istore 4, 2) := by decide +kernel
theorem dX5_leavesJust_19 : decode cX5_leavesJust 19 = .ok (.iconst 0, 1) := by decide +kernel
theorem dX5_leavesJust_20 : decode cX5_leavesJust 20 = .ok (.istore 5, 2) := by decide +kernel
theorem dX5_leavesJust_22 : decode cX5_leavesJust 22 = .ok (.iload 5, 2) := by decide +kernel
theorem dX5_leavesJust_24 : decode cX5_leavesJust 24 = .ok (.aload_n 0, 1) := by decide +kernel
theorem dX5_leavesJust_25 : decode cX5_leavesJust 25 = .ok (.getfield 22, 3) := by decide +kernel
theorem dX5_leavesJust_28 : decode cX5_leavesJust 28 = .ok (.getfield 56, 3) := by decide +kernel
theorem dX5_leavesJust_31 : decode cX5_leavesJust 31 = .ok (.if_icmp .ge 57, 3) := by decide +kernel
theorem dX5_leavesJust_34 : decode cX5_leavesJust 34 = .ok (.iload_n 1, 1) := by decide +kernel
theorem dX5_leavesJust_35 : decode cX5_leavesJust 35 = .ok (.iload 5, 2) := by decide +kernel
theorem dX5_leavesJust_37 : decode cX5_leavesJust 37 = .ok (.ishr, 1) := by decide +kernel
theorem dX5_leavesJust_38 : decode cX5_leavesJust 38 = .ok (.iconst 1, 1) := by decide +kernel
theorem dX5_leavesJust_39 : decode cX5_leavesJust 39 = .ok (.iand, 1) := by decide +kernel
theorem dX5_leavesJust_40 : decode cX5_leavesJust 40 = .ok (.iconst 1, 1) := by decide +kernel
theorem dX5_leavesJust_41 : decode cX5_leavesJust 41 = .ok (.if_icmp .ne 41, 3) := by decide +kernel
theorem dX5_leavesJust_44 : decode cX5_leavesJust 44 = .ok (.aload_n 0, 1) := by decide +kernel
theorem dX5_leavesJust_45 : decode cX5_leavesJust 45 = .ok (.getfield 12, 3) := by decide +kernel
theorem dX5_leavesJust_48 : decode cX5_leavesJust 48 = .ok (.aload_n 0, 1) := by decide +kernel
theorem dX5_leavesJust_49 : decode cX5_leavesJust 49 = .ok (.getfield 26, 3) := by decide +kernel
theorem dX5_leavesJust_52 : decode cX5_leavesJust 52 = .ok (.iload 5, 2) := by decide +kernel
theorem dX5_leavesJust_54 : decode cX5_leavesJust 54 = .ok (.iload 4, 2) := by decide +kernel
theorem dX5_leavesJust_56 : decode cX5_leavesJust 56 = .ok (.invokevirtual 59, 3) := by decide +kernel
theorem dX5_leavesJust_59 : decode cX5_leavesJust 59 = .ok (.istore 6, 2) := by decide +kernel
theorem dX5_leavesJust_61 : decode cX5_leavesJust 61 = .ok (.iload 6, 2) := by decide +kernel
theorem dX5_leavesJust_63 : decode cX5_leavesJust 63 = .ok (.iconst 1, 1) := by decide +kernel
theorem dX5_leavesJust_64 : decode cX5_leavesJust 64 = .ok (.if_icmp .ge 5, 3) := by decide +kernel
theorem dX5_leavesJust_67 : decode cX5_leavesJust 67 = .ok (.iconst 0, 1) := by decide +kernel
theorem dX5_leavesJust_68 : decode cX5_leavesJust 68 = .ok (.ireturn, 1) := by decide +kernel
theorem dX5_leavesJust_69 : decode cX5_leavesJust 69 = .ok (.aload_n 0, 1) := by decide +kernel
theorem dX5_leavesJust_70 : decode cX5_leavesJust 70 = .ok (.getfield 26, 3) := by decide +kernel
theorem dX5_leavesJust_73 : decode cX5_leavesJust 73 = .ok (.iload 5, 2) := by decide +kernel
theorem dX5_leavesJust_75 : decode cX5_leavesJust 75 = .ok (.iload 4, 2) := by decide +kernel
theorem dX5_leavesJust_77 : decode cX5_leavesJust 77 = .ok (.iload 6, 2) := by decide +kernel
theorem dX5_leavesJust_79 : decode cX5_leavesJust 79 = .ok (.invokevirtual 63, 3) := by decide +kernel
theorem dX5_leavesJust_82 : decode cX5_leavesJust 82 = .ok (.iinc 5 1, 3) := by decide +kernel
theorem dX5_leavesJust_85 : decode cX5_leavesJust 85 = .ok (.goto (-63), 3) := by decide +kernel
theorem dX5_leavesJust_88 : decode cX5_leavesJust 88 = .ok (.aload_n 0, 1) := by decide +kernel
theorem dX5_leavesJust_89 : decode cX5_leavesJust 89 = .ok (.getfield 26, 3) := by decide +kernel
theorem dX5_leavesJust_92 : decode cX5_leavesJust 92 = .ok (.getfield 67, 3) := by decide +kernel
theorem dX5_leavesJust_95 : decode cX5_leavesJust 95 = .ok (.iload_n 2, 1) := by decide +kernel
theorem dX5_leavesJust_96 : decode cX5_leavesJust 96 = .ok (.iaload, 1) := by decide +kernel
theorem dX5_leavesJust_97 : decode cX5_leavesJust 97 = .ok (.iload_n 3, 1) := by decide +kernel
theorem dX5_leavesJust_98 : decode cX5_leavesJust 98 = .ok (.if_icmp .ne 7, 3) := by decide +kernel
theorem dX5_leavesJust_101 : decode cX5_leavesJust 101 = .ok (.iconst 1, 1) := by decide +kernel
theorem dX5_leavesJust_102 : decode cX5_leavesJust 102 = .ok (.goto 4, 3) := by decide +kernel
theorem dX5_leavesJust_105 : decode cX5_leavesJust 105 = .ok (.iconst 0, 1) := by decide +kernel
theorem dX5_leavesJust_106 : decode cX5_leavesJust 106 = .ok (.ireturn, 1) := by decide +kernel
theorem dX5_callInBestOrder_0 : decode cX5_callInBestOrder 0 = .ok (.aload_n 0, 1) := by decide +kernel
theorem dX5_callInBestOrder_1 : decode cX5_callInBestOrder 1 = .ok (.getfield 26, 3) := by decide +kernel
theorem dX5_callInBestOrder_4 : decode cX5_callInBestOrder 4 = .ok (.aload_n 0, 1) := by decide +kernel
theorem dX5_callInBestOrder_5 : decode cX5_callInBestOrder 5 = .ok (.getfield 22, 3) := by decide +kernel
theorem dX5_callInBestOrder_8 : decode cX5_callInBestOrder 8 = .ok (.getfield 47, 3) := by decide +kernel
theorem dX5_callInBestOrder_11 : decode cX5_callInBestOrder 11 = .ok (.invokevirtual 52, 3) := by decide +kernel
theorem dX5_callInBestOrder_14 : decode cX5_callInBestOrder 14 = .ok (.aload_n 0, 1) := by decide +kernel
theorem dX5_callInBestOrder_15 : decode cX5_callInBestOrder 15 = .ok (.sipush (-9999), 3) := by decide +kernel
theorem dX5_callInBestOrder_18 : decode cX5_callInBestOrder 18 = .ok (.putfield 70, 3) := by decide +kernel
theorem dX5_callInBestOrder_21 : decode cX5_callInBestOrder 21 = .ok (.aload_n 0, 1) := by decide +kernel
theorem dX5_callInBestOrder_22 : decode cX5_callInBestOrder 22 = .ok (.iload_n 1, 1) := by decide +kernel
theorem dX5_callInBestOrder_23 : decode cX5_callInBestOrder 23 = .ok (.iload_n 2, 1) := by decide +kernel
theorem dX5_callInBestOrder_24 : decode cX5_callInBestOrder 24 = .ok (.iconst 0, 1) := by decide +kernel
theorem dX5_callInBestOrder_25 : decode cX5_callInBestOrder 25 = .ok (.invokevirtual 73, 3) := by decide +kernel
theorem dX5_callInBestOrder_28 : decode cX5_callInBestOrder 28 = .ok (.return_, 1) := by decide +kernel
theorem dX5_callRest_0 : decode cX5_callRest 0 = .ok (.iload_n 1, 1) := by decide +kernel
theorem dX5_callRest_1 : decode cX5_callRest 1 = .ok (.ifCond .eq 9, 3) := by decide +kernel
theorem dX5_callRest_4 : decode cX5_callRest 4 = .ok (.iload_n 3, 1) := by decide +kernel
theorem dX5_callRest_5 : decode cX5_callRest 5 = .ok (.bipush 6, 2) := by decide +kernel
theorem dX5_callRest_7 : decode cX5_callRest 7 = .ok (.if_icmp .lt 50, 3) := by decide +kernel
theorem dX5_callRest_10 : decode cX5_callRest 10 = .ok (.aload_n 0, 1) := by decide +kernel
theorem dX5_callRest_11 : decode cX5_callRest 11 = .ok (.getfield 26, 3) := by decide +kernel
theorem dX5_callRest_14 : decode cX5_callRest 14 = .ok (.invokevirtual 76, 3) := by decide +kernel
theorem dX5_callRest_17 : decode cX5_callRest 17 = .ok (.invokestatic 80, 3) := by decide +kernel
theorem dX5_callRest_20 : decode cX5_callRest 20 = .ok (.aload_n 0, 1) := by decide +kernel
theorem dX5_callRest_21 : decode cX5_callRest 21 = .ok (.getfield 70, 3) := by decide +kernel
theorem dX5_callRest_24 : decode cX5_callRest 24 = .ok (.invokestatic 80, 3) := by decide +kernel
theorem dX5_callRest_27 : decode cX5_callRest 27 = .ok (.if_icmp .ge 29, 3) := by decide +kernel
theorem dX5_callRest_30 : decode cX5_callRest 30 = .ok (.aload_n 0, 1) := by decide +kernel
theorem dX5_callRest_31 : decode cX5_callRest 31 = .ok (.aload_n 0, 1) := by decide +kernel
theorem dX5_callRest_32 : decode cX5_callRest 32 = .ok (.getfield 26, 3) := by decide +kernel
theorem dX5_callRest_35 : decode cX5_callRest 35 = .ok (.invokevirtual 76, 3) := by decide +kernel
theorem dX5_callRest_38 : decode cX5_callRest 38 = .ok (.putfield 70, 3) := by decide +kernel
theorem dX5_callRest_41 : decode cX5_callRest 41 = .ok (.aload_n 0, 1) := by decide +kernel
theorem dX5_callRest_42 : decode cX5_callRest 42 = .ok (.getfield 30, 3) := by decide +kernel
theorem dX5_callRest_45 : decode cX5_callRest 45 = .ok (.iconst 0, 1) := by decide +kernel
theorem dX5_callRest_46 : decode cX5_callRest 46 = .ok (.aload_n 0, 1) := by decide +kernel
theorem dX5_callRest_47 : decode cX5_callRest 47 = .ok (.getfield 37, 3) := by decide +kernel
theorem dX5_callRest_50 : decode cX5_callRest 50 = .ok (.iconst 0, 1) := by decide +kernel
theorem dX5_callRest_51 : decode cX5_callRest 51 = .ok (.bipush 6, 2) := by decide +kernel
theorem dX5_callRest_53 : decode cX5_callRest 53 = .ok (.invokestatic 86, 3) := by decide +kernel
theorem dX5_callRest_56 : decode cX5_callRest 56 = .ok (.return_, 1) := by decide +kernel
theorem dX5_callRest_57 : decode cX5_callRest 57 = .ok (.iconst 0, 1) := by decide +kernel
theorem dX5_callRest_58 : decode cX5_callRest 58 = .ok (.istore 4, 2) := by decide +kernel
theorem dX5_callRest_60 : decode cX5_callRest 60 = .ok (.iload 4, 2) := by decide +kernel
theorem dX5_callRest_62 : decode cX5_callRest 62 = .ok (.aload_n 0, 1) := by decide +kernel
theorem dX5_callRest_63 : decode cX5_callRest 63 = .ok (.getfield 22, 3) := by decide +kernel
theorem dX5_callRest_66 : decode cX5_callRest 66 = .ok (.getfield 56, 3) := by decide +kernel
theorem dX5_callRest_69 : decode cX5_callRest 69 = .ok (.if_icmp .ge 83, 3) := by decide +kernel
theorem dX5_callRest_72 : decode cX5_callRest 72 = .ok (.iload_n 1, 1) := by decide +kernel
theorem dX5_callRest_73 : decode cX5_callRest 73 = .ok (.iload 4, 2) := by decide +kernel
theorem dX5_callRest_75 : decode cX5_callRest 75 = .ok (.ishr, 1) := by decide +kernel
theorem dX5_callRest_76 : decode cX5_callRest 76 = .ok (.iconst 1, 1) := by decide +kernel
theorem dX5_callRest_77 : decode cX5_callRest 77 = .ok (.iand, 1) := by decide +kernel
theorem dX5_callRest_78 : decode cX5_callRest 78 = .ok (.iconst 1, 1) := by decide +kernel
theorem dX5_callRest_79 : decode cX5_callRest 79 = .ok (.if_icmp .ne 67, 3) := by decide +kernel
theorem dX5_callRest_82 : decode cX5_callRest 82 = .ok (.aload_n 0, 1) := by decide +kernel
theorem dX5_callRest_83 : decode cX5_callRest 83 = .ok (.getfield 12, 3) := by decide +kernel
theorem dX5_callRest_86 : decode cX5_callRest 86 = .ok (.aload_n 0, 1) := by decide +kernel
theorem dX5_callRest_87 : decode cX5_callRest 87 = .ok (.getfield 26, 3) := by decide +kernel
theorem dX5_callRest_90 : decode cX5_callRest 90 = .ok (.iload 4, 2) := by decide +kernel
theorem dX5_callRest_92 : decode cX5_callRest 92 = .ok (.iload_n 2, 1) := by decide +kernel
theorem dX5_callRest_93 : decode cX5_callRest 93 = .ok (.invokevirtual 59, 3) := by decide +kernel
theorem dX5_callRest_96 : decode cX5_callRest 96 = .ok (.istore 5, 2) := by decide +kernel
theorem dX5_callRest_98 : decode cX5_callRest 98 = .ok (.aload_n 0, 1) := by decide +kernel
theorem dX5_callRest_99 : decode cX5_callRest 99 = .ok (.getfield 30, 3) := by decide +kernel
theorem dX5_callRest_102 : decode cX5_callRest 102 = .ok (.iload_n 3, 1) := by decide +kernel
theorem dX5_callRest_103 : decode cX5_callRest 103 = .ok (.iload 4, 2) := by decide +kernel
theorem dX5_callRest_105 : decode cX5_callRest 105 = .ok (.iastore, 1) := by decide +kernel
theorem dX5_callRest_106 : decode cX5_callRest 106 = .ok (.aload_n 0, 1) := by decide +kernel
theorem dX5_callRest_107 : decode cX5_callRest 107 = .ok (.getfield 26, 3) := by decide +kernel
theorem dX5_callRest_110 : decode cX5_callRest 110 = .ok (.iload 4, 2) := by decide +kernel
theorem dX5_callRest_112 : decode cX5_callRest 112 = .ok (.iload_n 2, 1) := by decide +kernel
theorem dX5_callRest_113 : decode cX5_callRest 113 = .ok (.iload 5, 2) := by decide +kernel
theorem dX5_callRest_115 : decode cX5_callRest 115 = .ok (.invokevirtual 63, 3) := by decide +kernel
theorem dX5_callRest_118 : decode cX5_callRest 118 = .ok (.aload_n 0, 1) := by decide +kernel
theorem dX5_callRest_119 : decode cX5_callRest 119 = .ok (.iload_n 1, 1) := by decide +kernel
theorem dX5_callRest_120 : decode cX5_callRest 120 = .ok (.iconst 1, 1) := by decide +kernel
theorem dX5_callRest_121 : decode cX5_callRest 121 = .ok (.iload 4, 2) := by decide +kernel
theorem dX5_callRest_123 : decode cX5_callRest 123 = .ok (.ishl, 1) := by decide +kernel
theorem dX5_callRest_124 : decode cX5_callRest 124 = .ok (.iconst (-1), 1) := by decide +kernel
theorem dX5_callRest_125 : decode cX5_callRest 125 = .ok (.ixor, 1) := by decide +kernel
theorem dX5_callRest_126 : decode cX5_callRest 126 = .ok (.iand, 1) := by decide +kernel
theorem dX5_callRest_127 : decode cX5_callRest 127 = .ok (.iload_n 2, 1) := by decide +kernel
theorem dX5_callRest_128 : decode cX5_callRest 128 = .ok (.iload_n 3, 1) := by decide +kernel
theorem dX5_callRest_129 : decode cX5_callRest 129 = .ok (.iconst 1, 1) := by decide +kernel
theorem dX5_callRest_130 : decode cX5_callRest 130 = .ok (.iadd, 1) := by decide +kernel
theorem dX5_callRest_131 : decode cX5_callRest 131 = .ok (.invokevirtual 73, 3) := by decide +kernel
theorem dX5_callRest_134 : decode cX5_callRest 134 = .ok (.aload_n 0, 1) := by decide +kernel
theorem dX5_callRest_135 : decode cX5_callRest 135 = .ok (.getfield 26, 3) := by decide +kernel
theorem dX5_callRest_138 : decode cX5_callRest 138 = .ok (.iload 4, 2) := by decide +kernel
theorem dX5_callRest_140 : decode cX5_callRest 140 = .ok (.iload_n 2, 1) := by decide +kernel
theorem dX5_callRest_141 : decode cX5_callRest 141 = .ok (.iload 5, 2) := by decide +kernel
theorem dX5_callRest_143 : decode cX5_callRest 143 = .ok (.invokevirtual 92, 3) := by decide +kernel
theorem dX5_callRest_146 : decode cX5_callRest 146 = .ok (.iinc 4 1, 3) := by decide +kernel
theorem dX5_callRest_149 : decode cX5_callRest 149 = .ok (.goto (-89), 3) := by decide +kernel
theorem dX5_callRest_152 : decode cX5_callRest 152 = .ok (.return_, 1) := by decide +kernel
theorem dX5_seekAcquittal_0 : decode cX5_seekAcquittal 0 = .ok (.aload_n 0, 1) := by decide +kernel
theorem dX5_seekAcquittal_1 : decode cX5_seekAcquittal 1 = .ok (.getfield 26, 3) := by decide +kernel
theorem dX5_seekAcquittal_4 : decode cX5_seekAcquittal 4 = .ok (.aload_n 0, 1) := by decide +kernel
theorem dX5_seekAcquittal_5 : decode cX5_seekAcquittal 5 = .ok (.getfield 22, 3) := by decide +kernel
theorem dX5_seekAcquittal_8 : decode cX5_seekAcquittal 8 = .ok (.getfield 47, 3) := by decide +kernel
theorem dX5_seekAcquittal_11 : decode cX5_seekAcquittal 11 = .ok (.invokevirtual 52, 3) := by decide +kernel
theorem dX5_seekAcquittal_14 : decode cX5_seekAcquittal 14 = .ok (.aload_n 0, 1) := by decide +kernel
theorem dX5_seekAcquittal_15 : decode cX5_seekAcquittal 15 = .ok (.iload_n 1, 1) := by decide +kernel
theorem dX5_seekAcquittal_16 : decode cX5_seekAcquittal 16 = .ok (.putfield 95, 3) := by decide +kernel
theorem dX5_seekAcquittal_19 : decode cX5_seekAcquittal 19 = .ok (.aload_n 0, 1) := by decide +kernel
theorem dX5_seekAcquittal_20 : decode cX5_seekAcquittal 20 = .ok (.iconst (-1), 1) := by decide +kernel
theorem dX5_seekAcquittal_21 : decode cX5_seekAcquittal 21 = .ok (.putfield 43, 3) := by decide +kernel
theorem dX5_seekAcquittal_24 : decode cX5_seekAcquittal 24 = .ok (.aload_n 0, 1) := by decide +kernel
theorem dX5_seekAcquittal_25 : decode cX5_seekAcquittal 25 = .ok (.iconst 0, 1) := by decide +kernel
theorem dX5_seekAcquittal_26 : decode cX5_seekAcquittal 26 = .ok (.putfield 98, 3) := by decide +kernel
theorem dX5_seekAcquittal_29 : decode cX5_seekAcquittal 29 = .ok (.aload_n 0, 1) := by decide +kernel
theorem dX5_seekAcquittal_30 : decode cX5_seekAcquittal 30 = .ok (.getfield 12, 3) := by decide +kernel
theorem dX5_seekAcquittal_33 : decode cX5_seekAcquittal 33 = .ok (.aload_n 0, 1) := by decide +kernel
theorem dX5_seekAcquittal_34 : decode cX5_seekAcquittal 34 = .ok (.getfield 26, 3) := by decide +kernel
theorem dX5_seekAcquittal_37 : decode cX5_seekAcquittal 37 = .ok (.iload_n 1, 1) := by decide +kernel
theorem dX5_seekAcquittal_38 : decode cX5_seekAcquittal 38 = .ok (.invokevirtual 101, 3) := by decide +kernel
theorem dX5_seekAcquittal_41 : decode cX5_seekAcquittal 41 = .ok (.ifCond .ne 9, 3) := by decide +kernel
theorem dX5_seekAcquittal_44 : decode cX5_seekAcquittal 44 = .ok (.aload_n 0, 1) := by decide +kernel
theorem dX5_seekAcquittal_45 : decode cX5_seekAcquittal 45 = .ok (.iconst 0, 1) := by decide +kernel
theorem dX5_seekAcquittal_46 : decode cX5_seekAcquittal 46 = .ok (.putfield 43, 3) := by decide +kernel
theorem dX5_seekAcquittal_49 : decode cX5_seekAcquittal 49 = .ok (.return_, 1) := by decide +kernel
theorem dX5_seekAcquittal_50 : decode cX5_seekAcquittal 50 = .ok (.iconst 1, 1) := by decide +kernel
theorem dX5_seekAcquittal_51 : decode cX5_seekAcquittal 51 = .ok (.istore_n 2, 1) := by decide +kernel
theorem dX5_seekAcquittal_52 : decode cX5_seekAcquittal 52 = .ok (.iload_n 2, 1) := by decide +kernel
theorem dX5_seekAcquittal_53 : decode cX5_seekAcquittal 53 = .ok (.iconst 4, 1) := by decide +kernel
theorem dX5_seekAcquittal_54 : decode cX5_seekAcquittal 54 = .ok (.if_icmp .gt 28, 3) := by decide +kernel
theorem dX5_seekAcquittal_57 : decode cX5_seekAcquittal 57 = .ok (.aload_n 0, 1) := by decide +kernel
theorem dX5_seekAcquittal_58 : decode cX5_seekAcquittal 58 = .ok (.getfield 43, 3) := by decide +kernel
theorem dX5_seekAcquittal_61 : decode cX5_seekAcquittal 61 = .ok (.iconst (-1), 1) := by decide +kernel
theorem dX5_seekAcquittal_62 : decode cX5_seekAcquittal 62 = .ok (.if_icmp .ne 20, 3) := by decide +kernel
theorem dX5_seekAcquittal_65 : decode cX5_seekAcquittal 65 = .ok (.aload_n 0, 1) := by decide +kernel
theorem dX5_seekAcquittal_66 : decode cX5_seekAcquittal 66 = .ok (.iload_n 2, 1) := by decide +kernel
theorem dX5_seekAcquittal_67 : decode cX5_seekAcquittal 67 = .ok (.putfield 105, 3) := by decide +kernel
theorem dX5_seekAcquittal_70 : decode cX5_seekAcquittal 70 = .ok (.aload_n 0, 1) := by decide +kernel
theorem dX5_seekAcquittal_71 : decode cX5_seekAcquittal 71 = .ok (.iconst 0, 1) := by decide +kernel
theorem dX5_seekAcquittal_72 : decode cX5_seekAcquittal 72 = .ok (.iconst 0, 1) := by decide +kernel
theorem dX5_seekAcquittal_73 : decode cX5_seekAcquittal 73 = .ok (.invokevirtual 108, 3) := by decide +kernel
theorem dX5_seekAcquittal_76 : decode cX5_seekAcquittal 76 = .ok (.iinc 2 1, 3) := by decide +kernel
theorem dX5_seekAcquittal_79 : decode cX5_seekAcquittal 79 = .ok (.goto (-27), 3) := by decide +kernel
theorem dX5_seekAcquittal_82 : decode cX5_seekAcquittal 82 = .ok (.return_, 1) := by decide +kernel
theorem dX5_trySpoons_0 : decode cX5_trySpoons 0 = .ok (.iload_n 1, 1) := by decide +kernel
theorem dX5_trySpoons_1 : decode cX5_trySpoons 1 = .ok (.iconst 4, 1) := by decide +kernel
theorem dX5_trySpoons_2 : decode cX5_trySpoons 2 = .ok (.if_icmp .lt 4, 3) := by decide +kernel
theorem dX5_trySpoons_5 : decode cX5_trySpoons 5 = .ok (.return_, 1) := by decide +kernel
theorem dX5_trySpoons_6 : decode cX5_trySpoons 6 = .ok (.iconst 0, 1) := by decide +kernel
theorem dX5_trySpoons_7 : decode cX5_trySpoons 7 = .ok (.istore_n 3, 1) := by decide +kernel
theorem dX5_trySpoons_8 : decode cX5_trySpoons 8 = .ok (.iload_n 3, 1) := by decide +kernel
theorem dX5_trySpoons_9 : decode cX5_trySpoons 9 = .ok (.iconst 2, 1) := by decide +kernel
theorem dX5_trySpoons_10 : decode cX5_trySpoons 10 = .ok (.aload_n 0, 1) := by decide +kernel
theorem dX5_trySpoons_11 : decode cX5_trySpoons 11 = .ok (.getfield 22, 3) := by decide +kernel
theorem dX5_trySpoons_14 : decode cX5_trySpoons 14 = .ok (.getfield 56, 3) := by decide +kernel
theorem dX5_trySpoons_17 : decode cX5_trySpoons 17 = .ok (.imul, 1) := by decide +kernel
theorem dX5_trySpoons_18 : decode cX5_trySpoons 18 = .ok (.if_icmp .ge 189, 3) := by decide +kernel
theorem dX5_trySpoons_21 : decode cX5_trySpoons 21 = .ok (.aload_n 0, 1) := by decide +kernel
theorem dX5_trySpoons_22 : decode cX5_trySpoons 22 = .ok (.getfield 12, 3) := by decide +kernel
theorem dX5_trySpoons_25 : decode cX5_trySpoons 25 = .ok (.aload_n 0, 1) := by decide +kernel
theorem dX5_trySpoons_26 : decode cX5_trySpoons 26 = .ok (.getfield 26, 3) := by decide +kernel
theorem dX5_trySpoons_29 : decode cX5_trySpoons 29 = .ok (.iload_n 3, 1) := by decide +kernel
theorem dX5_trySpoons_30 : decode cX5_trySpoons 30 = .ok (.iconst 1, 1) := by decide +kernel
theorem dX5_trySpoons_31 : decode cX5_trySpoons 31 = .ok (.ishr, 1) := by decide +kernel
theorem dX5_trySpoons_32 : decode cX5_trySpoons 32 = .ok (.iload_n 3, 1) := by decide +kernel
theorem dX5_trySpoons_33 : decode cX5_trySpoons 33 = .ok (.iconst 1, 1) := by decide +kernel
theorem dX5_trySpoons_34 : decode cX5_trySpoons 34 = .ok (.iand, 1) := by decide +kernel
theorem dX5_trySpoons_35 : decode cX5_trySpoons 35 = .ok (.invokevirtual 59, 3) := by decide +kernel
theorem dX5_trySpoons_38 : decode cX5_trySpoons 38 = .ok (.istore 4, 2) := by decide +kernel
theorem dX5_trySpoons_40 : decode cX5_trySpoons 40 = .ok (.iload_n 3, 1) := by decide +kernel
theorem dX5_trySpoons_41 : decode cX5_trySpoons 41 = .ok (.iconst 1, 1) := by decide +kernel
theorem dX5_trySpoons_42 : decode cX5_trySpoons 42 = .ok (.iand, 1) := by decide +kernel
theorem dX5_trySpoons_43 : decode cX5_trySpoons 43 = .ok (.ifCond .ne 10, 3) := by decide +kernel
theorem dX5_trySpoons_46 : decode cX5_trySpoons 46 = .ok (.iload_n 2, 1) := by decide +kernel
theorem dX5_trySpoons_47 : decode cX5_trySpoons 47 = .ok (.iload 4, 2) := by decide +kernel
theorem dX5_trySpoons_49 : decode cX5_trySpoons 49 = .ok (.iadd, 1) := by decide +kernel
theorem dX5_trySpoons_50 : decode cX5_trySpoons 50 = .ok (.goto 4, 3) := by decide +kernel
theorem dX5_trySpoons_53 : decode cX5_trySpoons 53 = .ok (.iload_n 2, 1) := by decide +kernel
theorem dX5_trySpoons_54 : decode cX5_trySpoons 54 = .ok (.istore 5, 2) := by decide +kernel
theorem dX5_trySpoons_56 : decode cX5_trySpoons 56 = .ok (.iload_n 1, 1) := by decide +kernel
theorem dX5_trySpoons_57 : decode cX5_trySpoons 57 = .ok (.iconst 1, 1) := by decide +kernel
theorem dX5_trySpoons_58 : decode cX5_trySpoons 58 = .ok (.iadd, 1) := by decide +kernel
theorem dX5_trySpoons_59 : decode cX5_trySpoons 59 = .ok (.aload_n 0, 1) := by decide +kernel
theorem dX5_trySpoons_60 : decode cX5_trySpoons 60 = .ok (.getfield 105, 3) := by decide +kernel
theorem dX5_trySpoons_63 : decode cX5_trySpoons 63 = .ok (.if_icmp .lt 7, 3) := by decide +kernel
theorem dX5_trySpoons_66 : decode cX5_trySpoons 66 = .ok (.iconst 1, 1) := by decide +kernel
theorem dX5_trySpoons_67 : decode cX5_trySpoons 67 = .ok (.goto 4, 3) := by decide +kernel
theorem dX5_trySpoons_70 : decode cX5_trySpoons 70 = .ok (.iconst 0, 1) := by decide +kernel
theorem dX5_trySpoons_71 : decode cX5_trySpoons 71 = .ok (.istore 6, 2) := by decide +kernel
theorem dX5_trySpoons_73 : decode cX5_trySpoons 73 = .ok (.iload 4, 2) := by decide +kernel
theorem dX5_trySpoons_75 : decode cX5_trySpoons 75 = .ok (.iconst 1, 1) := by decide +kernel
theorem dX5_trySpoons_76 : decode cX5_trySpoons 76 = .ok (.if_icmp .lt 125, 3) := by decide +kernel
theorem dX5_trySpoons_79 : decode cX5_trySpoons 79 = .ok (.aload_n 0, 1) := by decide +kernel
theorem dX5_trySpoons_80 : decode cX5_trySpoons 80 = .ok (.getfield 43, 3) := by decide +kernel
theorem dX5_trySpoons_83 : decode cX5_trySpoons 83 = .ok (.iconst (-1), 1) := by decide +kernel
theorem dX5_trySpoons_84 : decode cX5_trySpoons 84 = .ok (.if_icmp .eq 12, 3) := by decide +kernel
theorem dX5_trySpoons_87 : decode cX5_trySpoons 87 = .ok (.iload 5, 2) := by decide +kernel
theorem dX5_trySpoons_89 : decode cX5_trySpoons 89 = .ok (.aload_n 0, 1) := by decide +kernel
theorem dX5_trySpoons_90 : decode cX5_trySpoons 90 = .ok (.getfield 98, 3) := by decide +kernel
theorem dX5_trySpoons_93 : decode cX5_trySpoons 93 = .ok (.if_icmp .ge 108, 3) := by decide +kernel
theorem dX5_trySpoons_96 : decode cX5_trySpoons 96 = .ok (.iload 6, 2) := by decide +kernel
theorem dX5_trySpoons_98 : decode cX5_trySpoons 98 = .ok (.ifCond .ne 17, 3) := by decide +kernel
theorem dX5_trySpoons_101 : decode cX5_trySpoons 101 = .ok (.aload_n 0, 1) := by decide +kernel
theorem dX5_trySpoons_102 : decode cX5_trySpoons 102 = .ok (.iload_n 1, 1) := by decide +kernel
theorem dX5_trySpoons_103 : decode cX5_trySpoons 103 = .ok (.iload_n 3, 1) := by decide +kernel
theorem dX5_trySpoons_104 : decode cX5_trySpoons 104 = .ok (.iload 4, 2) := by decide +kernel
theorem dX5_trySpoons_106 : decode cX5_trySpoons 106 = .ok (.invokevirtual 112, 3) := by decide +kernel
theorem dX5_trySpoons_109 : decode cX5_trySpoons 109 = .ok (.ifCond .eq 6, 3) := by decide +kernel
theorem dX5_trySpoons_112 : decode cX5_trySpoons 112 = .ok (.goto 89, 3) := by decide +kernel
theorem dX5_trySpoons_115 : decode cX5_trySpoons 115 = .ok (.aload_n 0, 1) := by decide +kernel
theorem dX5_trySpoons_116 : decode cX5_trySpoons 116 = .ok (.getfield 30, 3) := by decide +kernel
theorem dX5_trySpoons_119 : decode cX5_trySpoons 119 = .ok (.iload_n 1, 1) := by decide +kernel
theorem dX5_trySpoons_120 : decode cX5_trySpoons 120 = .ok (.iload_n 3, 1) := by decide +kernel
theorem dX5_trySpoons_121 : decode cX5_trySpoons 121 = .ok (.iastore, 1) := by decide +kernel
theorem dX5_trySpoons_122 : decode cX5_trySpoons 122 = .ok (.aload_n 0, 1) := by decide +kernel
theorem dX5_trySpoons_123 : decode cX5_trySpoons 123 = .ok (.getfield 34, 3) := by decide +kernel
theorem dX5_trySpoons_126 : decode cX5_trySpoons 126 = .ok (.iload_n 1, 1) := by decide +kernel
theorem dX5_trySpoons_127 : decode cX5_trySpoons 127 = .ok (.iload 4, 2) := by decide +kernel
theorem dX5_trySpoons_129 : decode cX5_trySpoons 129 = .ok (.iastore, 1) := by decide +kernel
theorem dX5_trySpoons_130 : decode cX5_trySpoons 130 = .ok (.aload_n 0, 1) := by decide +kernel
theorem dX5_trySpoons_131 : decode cX5_trySpoons 131 = .ok (.getfield 26, 3) := by decide +kernel
theorem dX5_trySpoons_134 : decode cX5_trySpoons 134 = .ok (.iload_n 3, 1) := by decide +kernel
theorem dX5_trySpoons_135 : decode cX5_trySpoons 135 = .ok (.iconst 1, 1) := by decide +kernel
theorem dX5_trySpoons_136 : decode cX5_trySpoons 136 = .ok (.ishr, 1) := by decide +kernel
theorem dX5_trySpoons_137 : decode cX5_trySpoons 137 = .ok (.iload_n 3, 1) := by decide +kernel
theorem dX5_trySpoons_138 : decode cX5_trySpoons 138 = .ok (.iconst 1, 1) := by decide +kernel
theorem dX5_trySpoons_139 : decode cX5_trySpoons 139 = .ok (.iand, 1) := by decide +kernel
theorem dX5_trySpoons_140 : decode cX5_trySpoons 140 = .ok (.iload 4, 2) := by decide +kernel
theorem dX5_trySpoons_142 : decode cX5_trySpoons 142 = .ok (.invokevirtual 63, 3) := by decide +kernel
theorem dX5_trySpoons_145 : decode cX5_trySpoons 145 = .ok (.iload 6, 2) := by decide +kernel
theorem dX5_trySpoons_147 : decode cX5_trySpoons 147 = .ok (.ifCond .ne 15, 3) := by decide +kernel
theorem dX5_trySpoons_150 : decode cX5_trySpoons 150 = .ok (.aload_n 0, 1) := by decide +kernel
theorem dX5_trySpoons_151 : decode cX5_trySpoons 151 = .ok (.iload_n 1, 1) := by decide +kernel
theorem dX5_trySpoons_152 : decode cX5_trySpoons 152 = .ok (.iconst 1, 1) := by decide +kernel
theorem dX5_trySpoons_153 : decode cX5_trySpoons 153 = .ok (.iadd, 1) := by decide +kernel
theorem dX5_trySpoons_154 : decode cX5_trySpoons 154 = .ok (.iload 5, 2) := by decide +kernel
theorem dX5_trySpoons_156 : decode cX5_trySpoons 156 = .ok (.invokevirtual 108, 3) := by decide +kernel
theorem dX5_trySpoons_159 : decode cX5_trySpoons 159 = .ok (.goto 27, 3) := by decide +kernel
theorem dX5_trySpoons_162 : decode cX5_trySpoons 162 = .ok (.aload_n 0, 1) := by decide +kernel
theorem dX5_trySpoons_163 : decode cX5_trySpoons 163 = .ok (.getfield 12, 3) := by decide +kernel
theorem dX5_trySpoons_166 : decode cX5_trySpoons 166 = .ok (.aload_n 0, 1) := by decide +kernel
theorem dX5_trySpoons_167 : decode cX5_trySpoons 167 = .ok (.getfield 26, 3) := by decide +kernel
theorem dX5_trySpoons_170 : decode cX5_trySpoons 170 = .ok (.aload_n 0, 1) := by decide +kernel
theorem dX5_trySpoons_171 : decode cX5_trySpoons 171 = .ok (.getfield 95, 3) := by decide +kernel
theorem dX5_trySpoons_174 : decode cX5_trySpoons 174 = .ok (.invokevirtual 101, 3) := by decide +kernel
theorem dX5_trySpoons_177 : decode cX5_trySpoons 177 = .ok (.ifCond .ne 9, 3) := by decide +kernel
theorem dX5_trySpoons_180 : decode cX5_trySpoons 180 = .ok (.aload_n 0, 1) := by decide +kernel
theorem dX5_trySpoons_181 : decode cX5_trySpoons 181 = .ok (.iload 5, 2) := by decide +kernel
theorem dX5_trySpoons_183 : decode cX5_trySpoons 183 = .ok (.invokevirtual 116, 3) := by decide +kernel
theorem dX5_trySpoons_186 : decode cX5_trySpoons 186 = .ok (.aload_n 0, 1) := by decide +kernel
theorem dX5_trySpoons_187 : decode cX5_trySpoons 187 = .ok (.getfield 26, 3) := by decide +kernel
theorem dX5_trySpoons_190 : decode cX5_trySpoons 190 = .ok (.iload_n 3, 1) := by decide +kernel
theorem dX5_trySpoons_191 : decode cX5_trySpoons 191 = .ok (.iconst 1, 1) := by decide +kernel
theorem dX5_trySpoons_192 : decode cX5_trySpoons 192 = .ok (.ishr, 1) := by decide +kernel
theorem dX5_trySpoons_193 : decode cX5_trySpoons 193 = .ok (.iload_n 3, 1) := by decide +kernel
theorem dX5_trySpoons_194 : decode cX5_trySpoons 194 = .ok (.iconst 1, 1) := by decide +kernel
theorem dX5_trySpoons_195 : decode cX5_trySpoons 195 = .ok (.iand, 1) := by decide +kernel
theorem dX5_trySpoons_196 : decode cX5_trySpoons 196 = .ok (.iload 4, 2) := by decide +kernel
theorem dX5_trySpoons_198 : decode cX5_trySpoons 198 = .ok (.invokevirtual 92, 3) := by decide +kernel
theorem dX5_trySpoons_201 : decode cX5_trySpoons 201 = .ok (.iinc 3 1, 3) := by decide +kernel
theorem dX5_trySpoons_204 : decode cX5_trySpoons 204 = .ok (.goto (-196), 3) := by decide +kernel
theorem dX5_trySpoons_207 : decode cX5_trySpoons 207 = .ok (.return_, 1) := by decide +kernel
theorem dX5_keepFound_0 : decode cX5_keepFound 0 = .ok (.aload_n 0, 1) := by decide +kernel
theorem dX5_keepFound_1 : decode cX5_keepFound 1 = .ok (.aload_n 0, 1) := by decide +kernel
theorem dX5_keepFound_2 : decode cX5_keepFound 2 = .ok (.getfield 105, 3) := by decide +kernel
theorem dX5_keepFound_5 : decode cX5_keepFound 5 = .ok (.putfield 43, 3) := by decide +kernel
theorem dX5_keepFound_8 : decode cX5_keepFound 8 = .ok (.aload_n 0, 1) := by decide +kernel
theorem dX5_keepFound_9 : decode cX5_keepFound 9 = .ok (.iload_n 1, 1) := by decide +kernel
theorem dX5_keepFound_10 : decode cX5_keepFound 10 = .ok (.putfield 98, 3) := by decide +kernel
theorem dX5_keepFound_13 : decode cX5_keepFound 13 = .ok (.aload_n 0, 1) := by decide +kernel
theorem dX5_keepFound_14 : decode cX5_keepFound 14 = .ok (.getfield 30, 3) := by decide +kernel
theorem dX5_keepFound_17 : decode cX5_keepFound 17 = .ok (.iconst 0, 1) := by decide +kernel
theorem dX5_keepFound_18 : decode cX5_keepFound 18 = .ok (.aload_n 0, 1) := by decide +kernel
theorem dX5_keepFound_19 : decode cX5_keepFound 19 = .ok (.getfield 40, 3) := by decide +kernel
theorem dX5_keepFound_22 : decode cX5_keepFound 22 = .ok (.iconst 0, 1) := by decide +kernel
theorem dX5_keepFound_23 : decode cX5_keepFound 23 = .ok (.iconst 4, 1) := by decide +kernel
theorem dX5_keepFound_24 : decode cX5_keepFound 24 = .ok (.invokestatic 86, 3) := by decide +kernel
theorem dX5_keepFound_27 : decode cX5_keepFound 27 = .ok (.return_, 1) := by decide +kernel
theorem dX5_swaps_0 : decode cX5_swaps 0 = .ok (.iload_n 1, 1) := by decide +kernel
theorem dX5_swaps_1 : decode cX5_swaps 1 = .ok (.iconst 1, 1) := by decide +kernel
theorem dX5_swaps_2 : decode cX5_swaps 2 = .ok (.if_icmp .lt 15, 3) := by decide +kernel
theorem dX5_swaps_5 : decode cX5_swaps 5 = .ok (.aload_n 0, 1) := by decide +kernel
theorem dX5_swaps_6 : decode cX5_swaps 6 = .ok (.getfield 30, 3) := by decide +kernel
theorem dX5_swaps_9 : decode cX5_swaps 9 = .ok (.iload_n 1, 1) := by decide +kernel
theorem dX5_swaps_10 : decode cX5_swaps 10 = .ok (.iconst 1, 1) := by decide +kernel
theorem dX5_swaps_11 : decode cX5_swaps 11 = .ok (.isub, 1) := by decide +kernel
theorem dX5_swaps_12 : decode cX5_swaps 12 = .ok (.iaload, 1) := by decide +kernel
theorem dX5_swaps_13 : decode cX5_swaps 13 = .ok (.iload_n 2, 1) := by decide +kernel
theorem dX5_swaps_14 : decode cX5_swaps 14 = .ok (.if_icmp .gt 5, 3) := by decide +kernel
theorem dX5_swaps_17 : decode cX5_swaps 17 = .ok (.iconst 0, 1) := by decide +kernel
theorem dX5_swaps_18 : decode cX5_swaps 18 = .ok (.ireturn, 1) := by decide +kernel
theorem dX5_swaps_19 : decode cX5_swaps 19 = .ok (.aload_n 0, 1) := by decide +kernel
theorem dX5_swaps_20 : decode cX5_swaps 20 = .ok (.getfield 30, 3) := by decide +kernel
theorem dX5_swaps_23 : decode cX5_swaps 23 = .ok (.iload_n 1, 1) := by decide +kernel
theorem dX5_swaps_24 : decode cX5_swaps 24 = .ok (.iconst 1, 1) := by decide +kernel
theorem dX5_swaps_25 : decode cX5_swaps 25 = .ok (.isub, 1) := by decide +kernel
theorem dX5_swaps_26 : decode cX5_swaps 26 = .ok (.iaload, 1) := by decide +kernel
theorem dX5_swaps_27 : decode cX5_swaps 27 = .ok (.istore 4, 2) := by decide +kernel
theorem dX5_swaps_29 : decode cX5_swaps 29 = .ok (.aload_n 0, 1) := by decide +kernel
theorem dX5_swaps_30 : decode cX5_swaps 30 = .ok (.getfield 34, 3) := by decide +kernel
theorem dX5_swaps_33 : decode cX5_swaps 33 = .ok (.iload_n 1, 1) := by decide +kernel
theorem dX5_swaps_34 : decode cX5_swaps 34 = .ok (.iconst 1, 1) := by decide +kernel
theorem dX5_swaps_35 : decode cX5_swaps 35 = .ok (.isub, 1) := by decide +kernel
theorem dX5_swaps_36 : decode cX5_swaps 36 = .ok (.iaload, 1) := by decide +kernel
theorem dX5_swaps_37 : decode cX5_swaps 37 = .ok (.istore 5, 2) := by decide +kernel
theorem dX5_swaps_39 : decode cX5_swaps 39 = .ok (.aload_n 0, 1) := by decide +kernel
theorem dX5_swaps_40 : decode cX5_swaps 40 = .ok (.getfield 26, 3) := by decide +kernel
theorem dX5_swaps_43 : decode cX5_swaps 43 = .ok (.iload 4, 2) := by decide +kernel
theorem dX5_swaps_45 : decode cX5_swaps 45 = .ok (.iconst 1, 1) := by decide +kernel
theorem dX5_swaps_46 : decode cX5_swaps 46 = .ok (.ishr, 1) := by decide +kernel
theorem dX5_swaps_47 : decode cX5_swaps 47 = .ok (.iload 4, 2) := by decide +kernel
theorem dX5_swaps_49 : decode cX5_swaps 49 = .ok (.iconst 1, 1) := by decide +kernel
theorem dX5_swaps_50 : decode cX5_swaps 50 = .ok (.iand, 1) := by decide +kernel
theorem dX5_swaps_51 : decode cX5_swaps 51 = .ok (.iload 5, 2) := by decide +kernel
theorem dX5_swaps_53 : decode cX5_swaps 53 = .ok (.invokevirtual 92, 3) := by decide +kernel
theorem dX5_swaps_56 : decode cX5_swaps 56 = .ok (.aload_n 0, 1) := by decide +kernel
theorem dX5_swaps_57 : decode cX5_swaps 57 = .ok (.getfield 12, 3) := by decide +kernel
theorem dX5_swaps_60 : decode cX5_swaps 60 = .ok (.aload_n 0, 1) := by decide +kernel
theorem dX5_swaps_61 : decode cX5_swaps 61 = .ok (.getfield 26, 3) := by decide +kernel
theorem dX5_swaps_64 : decode cX5_swaps 64 = .ok (.iload_n 2, 1) := by decide +kernel
theorem dX5_swaps_65 : decode cX5_swaps 65 = .ok (.iconst 1, 1) := by decide +kernel
theorem dX5_swaps_66 : decode cX5_swaps 66 = .ok (.ishr, 1) := by decide +kernel
theorem dX5_swaps_67 : decode cX5_swaps 67 = .ok (.iload_n 2, 1) := by decide +kernel
theorem dX5_swaps_68 : decode cX5_swaps 68 = .ok (.iconst 1, 1) := by decide +kernel
theorem dX5_swaps_69 : decode cX5_swaps 69 = .ok (.iand, 1) := by decide +kernel
theorem dX5_swaps_70 : decode cX5_swaps 70 = .ok (.invokevirtual 59, 3) := by decide +kernel
theorem dX5_swaps_73 : decode cX5_swaps 73 = .ok (.iload_n 3, 1) := by decide +kernel
theorem dX5_swaps_74 : decode cX5_swaps 74 = .ok (.if_icmp .ne 7, 3) := by decide +kernel
theorem dX5_swaps_77 : decode cX5_swaps 77 = .ok (.iconst 1, 1) := by decide +kernel
theorem dX5_swaps_78 : decode cX5_swaps 78 = .ok (.goto 4, 3) := by decide +kernel
theorem dX5_swaps_81 : decode cX5_swaps 81 = .ok (.iconst 0, 1) := by decide +kernel
theorem dX5_swaps_82 : decode cX5_swaps 82 = .ok (.istore 6, 2) := by decide +kernel
theorem dX5_swaps_84 : decode cX5_swaps 84 = .ok (.iload 6, 2) := by decide +kernel
theorem dX5_swaps_86 : decode cX5_swaps 86 = .ok (.ifCond .eq 62, 3) := by decide +kernel
theorem dX5_swaps_89 : decode cX5_swaps 89 = .ok (.aload_n 0, 1) := by decide +kernel
theorem dX5_swaps_90 : decode cX5_swaps 90 = .ok (.getfield 26, 3) := by decide +kernel
theorem dX5_swaps_93 : decode cX5_swaps 93 = .ok (.iload_n 2, 1) := by decide +kernel
theorem dX5_swaps_94 : decode cX5_swaps 94 = .ok (.iconst 1, 1) := by decide +kernel
theorem dX5_swaps_95 : decode cX5_swaps 95 = .ok (.ishr, 1) := by decide +kernel
theorem dX5_swaps_96 : decode cX5_swaps 96 = .ok (.iload_n 2, 1) := by decide +kernel
theorem dX5_swaps_97 : decode cX5_swaps 97 = .ok (.iconst 1, 1) := by decide +kernel
theorem dX5_swaps_98 : decode cX5_swaps 98 = .ok (.iand, 1) := by decide +kernel
theorem dX5_swaps_99 : decode cX5_swaps 99 = .ok (.iload_n 3, 1) := by decide +kernel
theorem dX5_swaps_100 : decode cX5_swaps 100 = .ok (.invokevirtual 63, 3) := by decide +kernel
theorem dX5_swaps_103 : decode cX5_swaps 103 = .ok (.aload_n 0, 1) := by decide +kernel
theorem dX5_swaps_104 : decode cX5_swaps 104 = .ok (.getfield 12, 3) := by decide +kernel
theorem dX5_swaps_107 : decode cX5_swaps 107 = .ok (.aload_n 0, 1) := by decide +kernel
theorem dX5_swaps_108 : decode cX5_swaps 108 = .ok (.getfield 26, 3) := by decide +kernel
theorem dX5_swaps_111 : decode cX5_swaps 111 = .ok (.iload 4, 2) := by decide +kernel
theorem dX5_swaps_113 : decode cX5_swaps 113 = .ok (.iconst 1, 1) := by decide +kernel
theorem dX5_swaps_114 : decode cX5_swaps 114 = .ok (.ishr, 1) := by decide +kernel
theorem dX5_swaps_115 : decode cX5_swaps 115 = .ok (.iload 4, 2) := by decide +kernel
theorem dX5_swaps_117 : decode cX5_swaps 117 = .ok (.iconst 1, 1) := by decide +kernel
theorem dX5_swaps_118 : decode cX5_swaps 118 = .ok (.iand, 1) := by decide +kernel
theorem dX5_swaps_119 : decode cX5_swaps 119 = .ok (.invokevirtual 59, 3) := by decide +kernel
theorem dX5_swaps_122 : decode cX5_swaps 122 = .ok (.iload 5, 2) := by decide +kernel
theorem dX5_swaps_124 : decode cX5_swaps 124 = .ok (.if_icmp .ne 7, 3) := by decide +kernel
theorem dX5_swaps_127 : decode cX5_swaps 127 = .ok (.iconst 1, 1) := by decide +kernel
theorem dX5_swaps_128 : decode cX5_swaps 128 = .ok (.goto 4, 3) := by decide +kernel
theorem dX5_swaps_131 : decode cX5_swaps 131 = .ok (.iconst 0, 1) := by decide +kernel
theorem dX5_swaps_132 : decode cX5_swaps 132 = .ok (.istore 6, 2) := by decide +kernel
theorem dX5_swaps_134 : decode cX5_swaps 134 = .ok (.aload_n 0, 1) := by decide +kernel
theorem dX5_swaps_135 : decode cX5_swaps 135 = .ok (.getfield 26, 3) := by decide +kernel
theorem dX5_swaps_138 : decode cX5_swaps 138 = .ok (.iload_n 2, 1) := by decide +kernel
theorem dX5_swaps_139 : decode cX5_swaps 139 = .ok (.iconst 1, 1) := by decide +kernel
theorem dX5_swaps_140 : decode cX5_swaps 140 = .ok (.ishr, 1) := by decide +kernel
theorem dX5_swaps_141 : decode cX5_swaps 141 = .ok (.iload_n 2, 1) := by decide +kernel
theorem dX5_swaps_142 : decode cX5_swaps 142 = .ok (.iconst 1, 1) := by decide +kernel
theorem dX5_swaps_143 : decode cX5_swaps 143 = .ok (.iand, 1) := by decide +kernel
theorem dX5_swaps_144 : decode cX5_swaps 144 = .ok (.iload_n 3, 1) := by decide +kernel
theorem dX5_swaps_145 : decode cX5_swaps 145 = .ok (.invokevirtual 92, 3) := by decide +kernel
theorem dX5_swaps_148 : decode cX5_swaps 148 = .ok (.aload_n 0, 1) := by decide +kernel
theorem dX5_swaps_149 : decode cX5_swaps 149 = .ok (.getfield 26, 3) := by decide +kernel
theorem dX5_swaps_152 : decode cX5_swaps 152 = .ok (.iload 4, 2) := by decide +kernel
theorem dX5_swaps_154 : decode cX5_swaps 154 = .ok (.iconst 1, 1) := by decide +kernel
theorem dX5_swaps_155 : decode cX5_swaps 155 = .ok (.ishr, 1) := by decide +kernel
theorem dX5_swaps_156 : decode cX5_swaps 156 = .ok (.iload 4, 2) := by decide +kernel
theorem dX5_swaps_158 : decode cX5_swaps 158 = .ok (.iconst 1, 1) := by decide +kernel
theorem dX5_swaps_159 : decode cX5_swaps 159 = .ok (.iand, 1) := by decide +kernel
theorem dX5_swaps_160 : decode cX5_swaps 160 = .ok (.iload 5, 2) := by decide +kernel
theorem dX5_swaps_162 : decode cX5_swaps 162 = .ok (.invokevirtual 63, 3) := by decide +kernel
theorem dX5_swaps_165 : decode cX5_swaps 165 = .ok (.iload 6, 2) := by decide +kernel
theorem dX5_swaps_167 : decode cX5_swaps 167 = .ok (.ireturn, 1) := by decide +kernel
