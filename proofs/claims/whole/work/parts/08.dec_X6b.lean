theorem dX6_roomOf_0 : decode cX6_roomOf 0 = .ok (.iconst 0, 1) := by decide +kernel
theorem dX6_roomOf_1 : decode cX6_roomOf 1 = .ok (.istore_n 2, 1) := by decide +kernel
theorem dX6_roomOf_2 : decode cX6_roomOf 2 = .ok (.iconst 0, 1) := by decide +kernel
theorem dX6_roomOf_3 : decode cX6_roomOf 3 = .ok (.istore_n 3, 1) := by decide +kernel
theorem dX6_roomOf_4 : decode cX6_roomOf 4 = .ok (.iload_n 3, 1) := by decide +kernel
theorem dX6_roomOf_5 : decode cX6_roomOf 5 = .ok (.bipush 9, 2) := by decide +kernel
theorem dX6_roomOf_7 : decode cX6_roomOf 7 = .ok (.if_icmp .ge 31, 3) := by decide +kernel
theorem dX6_roomOf_10 : decode cX6_roomOf 10 = .ok (.iload_n 2, 1) := by decide +kernel
theorem dX6_roomOf_11 : decode cX6_roomOf 11 = .ok (.iload_n 1, 1) := by decide +kernel
theorem dX6_roomOf_12 : decode cX6_roomOf 12 = .ok (.iload_n 3, 1) := by decide +kernel
theorem dX6_roomOf_13 : decode cX6_roomOf 13 = .ok (.ishr, 1) := by decide +kernel
theorem dX6_roomOf_14 : decode cX6_roomOf 14 = .ok (.iconst 1, 1) := by decide +kernel
theorem dX6_roomOf_15 : decode cX6_roomOf 15 = .ok (.iand, 1) := by decide +kernel
theorem dX6_roomOf_16 : decode cX6_roomOf 16 = .ok (.iconst 1, 1) := by decide +kernel
theorem dX6_roomOf_17 : decode cX6_roomOf 17 = .ok (.if_icmp .ne 12, 3) := by decide +kernel
theorem dX6_roomOf_20 : decode cX6_roomOf 20 = .ok (.aload_n 0, 1) := by decide +kernel
theorem dX6_roomOf_21 : decode cX6_roomOf 21 = .ok (.getfield 41, 3) := by decide +kernel
theorem dX6_roomOf_24 : decode cX6_roomOf 24 = .ok (.iload_n 3, 1) := by decide +kernel
theorem dX6_roomOf_25 : decode cX6_roomOf 25 = .ok (.iaload, 1) := by decide +kernel
theorem dX6_roomOf_26 : decode cX6_roomOf 26 = .ok (.goto 4, 3) := by decide +kernel
theorem dX6_roomOf_29 : decode cX6_roomOf 29 = .ok (.iconst 0, 1) := by decide +kernel
theorem dX6_roomOf_30 : decode cX6_roomOf 30 = .ok (.iadd, 1) := by decide +kernel
theorem dX6_roomOf_31 : decode cX6_roomOf 31 = .ok (.istore_n 2, 1) := by decide +kernel
theorem dX6_roomOf_32 : decode cX6_roomOf 32 = .ok (.iinc 3 1, 3) := by decide +kernel
theorem dX6_roomOf_35 : decode cX6_roomOf 35 = .ok (.goto (-31), 3) := by decide +kernel
theorem dX6_roomOf_38 : decode cX6_roomOf 38 = .ok (.iload_n 2, 1) := by decide +kernel
theorem dX6_roomOf_39 : decode cX6_roomOf 39 = .ok (.ireturn, 1) := by decide +kernel
theorem dX6_waysTo_0 : decode cX6_waysTo 0 = .ok (.aload_n 0, 1) := by decide +kernel
theorem dX6_waysTo_1 : decode cX6_waysTo 1 = .ok (.getfield 27, 3) := by decide +kernel
theorem dX6_waysTo_4 : decode cX6_waysTo 4 = .ok (.getfield 68, 3) := by decide +kernel
theorem dX6_waysTo_7 : decode cX6_waysTo 7 = .ok (.getfield 72, 3) := by decide +kernel
theorem dX6_waysTo_10 : decode cX6_waysTo 10 = .ok (.astore_n 3, 1) := by decide +kernel
theorem dX6_waysTo_11 : decode cX6_waysTo 11 = .ok (.iconst 0, 1) := by decide +kernel
theorem dX6_waysTo_12 : decode cX6_waysTo 12 = .ok (.istore 4, 2) := by decide +kernel
theorem dX6_waysTo_14 : decode cX6_waysTo 14 = .ok (.iconst 0, 1) := by decide +kernel
theorem dX6_waysTo_15 : decode cX6_waysTo 15 = .ok (.istore 5, 2) := by decide +kernel
theorem dX6_waysTo_17 : decode cX6_waysTo 17 = .ok (.iload 5, 2) := by decide +kernel
theorem dX6_waysTo_19 : decode cX6_waysTo 19 = .ok (.iload_n 2, 1) := by decide +kernel
theorem dX6_waysTo_20 : decode cX6_waysTo 20 = .ok (.if_icmp .gt 152, 3) := by decide +kernel
theorem dX6_waysTo_23 : decode cX6_waysTo 23 = .ok (.iconst 0, 1) := by decide +kernel
theorem dX6_waysTo_24 : decode cX6_waysTo 24 = .ok (.istore 6, 2) := by decide +kernel
theorem dX6_waysTo_26 : decode cX6_waysTo 26 = .ok (.iload 5, 2) := by decide +kernel
theorem dX6_waysTo_28 : decode cX6_waysTo 28 = .ok (.iload 6, 2) := by decide +kernel
theorem dX6_waysTo_30 : decode cX6_waysTo 30 = .ok (.iadd, 1) := by decide +kernel
theorem dX6_waysTo_31 : decode cX6_waysTo 31 = .ok (.iload_n 2, 1) := by decide +kernel
theorem dX6_waysTo_32 : decode cX6_waysTo 32 = .ok (.if_icmp .gt 134, 3) := by decide +kernel
theorem dX6_waysTo_35 : decode cX6_waysTo 35 = .ok (.iconst 0, 1) := by decide +kernel
theorem dX6_waysTo_36 : decode cX6_waysTo 36 = .ok (.istore 7, 2) := by decide +kernel
theorem dX6_waysTo_38 : decode cX6_waysTo 38 = .ok (.iload 5, 2) := by decide +kernel
theorem dX6_waysTo_40 : decode cX6_waysTo 40 = .ok (.iload 6, 2) := by decide +kernel
theorem dX6_waysTo_42 : decode cX6_waysTo 42 = .ok (.iadd, 1) := by decide +kernel
theorem dX6_waysTo_43 : decode cX6_waysTo 43 = .ok (.iload 7, 2) := by decide +kernel
theorem dX6_waysTo_45 : decode cX6_waysTo 45 = .ok (.iadd, 1) := by decide +kernel
theorem dX6_waysTo_46 : decode cX6_waysTo 46 = .ok (.iload_n 2, 1) := by decide +kernel
theorem dX6_waysTo_47 : decode cX6_waysTo 47 = .ok (.if_icmp .gt 113, 3) := by decide +kernel
theorem dX6_waysTo_50 : decode cX6_waysTo 50 = .ok (.iload_n 2, 1) := by decide +kernel
theorem dX6_waysTo_51 : decode cX6_waysTo 51 = .ok (.iload 5, 2) := by decide +kernel
theorem dX6_waysTo_53 : decode cX6_waysTo 53 = .ok (.isub, 1) := by decide +kernel
theorem dX6_waysTo_54 : decode cX6_waysTo 54 = .ok (.iload 6, 2) := by decide +kernel
theorem dX6_waysTo_56 : decode cX6_waysTo 56 = .ok (.isub, 1) := by decide +kernel
theorem dX6_waysTo_57 : decode cX6_waysTo 57 = .ok (.iload 7, 2) := by decide +kernel
theorem dX6_waysTo_59 : decode cX6_waysTo 59 = .ok (.isub, 1) := by decide +kernel
theorem dX6_waysTo_60 : decode cX6_waysTo 60 = .ok (.istore 8, 2) := by decide +kernel
theorem dX6_waysTo_62 : decode cX6_waysTo 62 = .ok (.iload 5, 2) := by decide +kernel
theorem dX6_waysTo_64 : decode cX6_waysTo 64 = .ok (.aload_n 3, 1) := by decide +kernel
theorem dX6_waysTo_65 : decode cX6_waysTo 65 = .ok (.iconst 0, 1) := by decide +kernel
theorem dX6_waysTo_66 : decode cX6_waysTo 66 = .ok (.iaload, 1) := by decide +kernel
theorem dX6_waysTo_67 : decode cX6_waysTo 67 = .ok (.invokestatic 299, 3) := by decide +kernel
theorem dX6_waysTo_70 : decode cX6_waysTo 70 = .ok (.iload 6, 2) := by decide +kernel
theorem dX6_waysTo_72 : decode cX6_waysTo 72 = .ok (.aload_n 3, 1) := by decide +kernel
theorem dX6_waysTo_73 : decode cX6_waysTo 73 = .ok (.iconst 1, 1) := by decide +kernel
theorem dX6_waysTo_74 : decode cX6_waysTo 74 = .ok (.iaload, 1) := by decide +kernel
theorem dX6_waysTo_75 : decode cX6_waysTo 75 = .ok (.invokestatic 299, 3) := by decide +kernel
theorem dX6_waysTo_78 : decode cX6_waysTo 78 = .ok (.iadd, 1) := by decide +kernel
theorem dX6_waysTo_79 : decode cX6_waysTo 79 = .ok (.istore 9, 2) := by decide +kernel
theorem dX6_waysTo_81 : decode cX6_waysTo 81 = .ok (.iload 7, 2) := by decide +kernel
theorem dX6_waysTo_83 : decode cX6_waysTo 83 = .ok (.aload_n 3, 1) := by decide +kernel
theorem dX6_waysTo_84 : decode cX6_waysTo 84 = .ok (.iconst 2, 1) := by decide +kernel
theorem dX6_waysTo_85 : decode cX6_waysTo 85 = .ok (.iaload, 1) := by decide +kernel
theorem dX6_waysTo_86 : decode cX6_waysTo 86 = .ok (.invokestatic 299, 3) := by decide +kernel
theorem dX6_waysTo_89 : decode cX6_waysTo 89 = .ok (.iload 8, 2) := by decide +kernel
theorem dX6_waysTo_91 : decode cX6_waysTo 91 = .ok (.aload_n 3, 1) := by decide +kernel
theorem dX6_waysTo_92 : decode cX6_waysTo 92 = .ok (.iconst 3, 1) := by decide +kernel
theorem dX6_waysTo_93 : decode cX6_waysTo 93 = .ok (.iaload, 1) := by decide +kernel
theorem dX6_waysTo_94 : decode cX6_waysTo 94 = .ok (.invokestatic 299, 3) := by decide +kernel
theorem dX6_waysTo_97 : decode cX6_waysTo 97 = .ok (.iadd, 1) := by decide +kernel
theorem dX6_waysTo_98 : decode cX6_waysTo 98 = .ok (.istore 10, 2) := by decide +kernel
theorem dX6_waysTo_100 : decode cX6_waysTo 100 = .ok (.aload_n 0, 1) := by decide +kernel
theorem dX6_waysTo_101 : decode cX6_waysTo 101 = .ok (.getfield 27, 3) := by decide +kernel
theorem dX6_waysTo_104 : decode cX6_waysTo 104 = .ok (.getfield 68, 3) := by decide +kernel
theorem dX6_waysTo_107 : decode cX6_waysTo 107 = .ok (.invokevirtual 267, 3) := by decide +kernel
theorem dX6_waysTo_110 : decode cX6_waysTo 110 = .ok (.iload 9, 2) := by decide +kernel
theorem dX6_waysTo_112 : decode cX6_waysTo 112 = .ok (.isub, 1) := by decide +kernel
theorem dX6_waysTo_113 : decode cX6_waysTo 113 = .ok (.iload 10, 2) := by decide +kernel
theorem dX6_waysTo_115 : decode cX6_waysTo 115 = .ok (.iadd, 1) := by decide +kernel
theorem dX6_waysTo_116 : decode cX6_waysTo 116 = .ok (.iload_n 1, 1) := by decide +kernel
theorem dX6_waysTo_117 : decode cX6_waysTo 117 = .ok (.if_icmp .ne 37, 3) := by decide +kernel
theorem dX6_waysTo_120 : decode cX6_waysTo 120 = .ok (.iload 4, 2) := by decide +kernel
theorem dX6_waysTo_122 : decode cX6_waysTo 122 = .ok (.iload_n 2, 1) := by decide +kernel
theorem dX6_waysTo_123 : decode cX6_waysTo 123 = .ok (.iload 5, 2) := by decide +kernel
theorem dX6_waysTo_125 : decode cX6_waysTo 125 = .ok (.invokestatic 302, 3) := by decide +kernel
theorem dX6_waysTo_128 : decode cX6_waysTo 128 = .ok (.iload_n 2, 1) := by decide +kernel
theorem dX6_waysTo_129 : decode cX6_waysTo 129 = .ok (.iload 5, 2) := by decide +kernel
theorem dX6_waysTo_131 : decode cX6_waysTo 131 = .ok (.isub, 1) := by decide +kernel
theorem dX6_waysTo_132 : decode cX6_waysTo 132 = .ok (.iload 6, 2) := by decide +kernel
theorem dX6_waysTo_134 : decode cX6_waysTo 134 = .ok (.invokestatic 302, 3) := by decide +kernel
theorem dX6_waysTo_137 : decode cX6_waysTo 137 = .ok (.imul, 1) := by decide +kernel
theorem dX6_waysTo_138 : decode cX6_waysTo 138 = .ok (.iload_n 2, 1) := by decide +kernel
theorem dX6_waysTo_139 : decode cX6_waysTo 139 = .ok (.iload 5, 2) := by decide +kernel
theorem dX6_waysTo_141 : decode cX6_waysTo 141 = .ok (.isub, 1) := by decide +kernel
theorem dX6_waysTo_142 : decode cX6_waysTo 142 = .ok (.iload 6, 2) := by decide +kernel
theorem dX6_waysTo_144 : decode cX6_waysTo 144 = .ok (.isub, 1) := by decide +kernel
theorem dX6_waysTo_145 : decode cX6_waysTo 145 = .ok (.iload 7, 2) := by decide +kernel
theorem dX6_waysTo_147 : decode cX6_waysTo 147 = .ok (.invokestatic 302, 3) := by decide +kernel
theorem dX6_waysTo_150 : decode cX6_waysTo 150 = .ok (.imul, 1) := by decide +kernel
theorem dX6_waysTo_151 : decode cX6_waysTo 151 = .ok (.iadd, 1) := by decide +kernel
theorem dX6_waysTo_152 : decode cX6_waysTo 152 = .ok (.istore 4, 2) := by decide +kernel
theorem dX6_waysTo_154 : decode cX6_waysTo 154 = .ok (.iinc 7 1, 3) := by decide +kernel
theorem dX6_waysTo_157 : decode cX6_waysTo 157 = .ok (.goto (-119), 3) := by decide +kernel
theorem dX6_waysTo_160 : decode cX6_waysTo 160 = .ok (.iinc 6 1, 3) := by decide +kernel
theorem dX6_waysTo_163 : decode cX6_waysTo 163 = .ok (.goto (-137), 3) := by decide +kernel
theorem dX6_waysTo_166 : decode cX6_waysTo 166 = .ok (.iinc 5 1, 3) := by decide +kernel
theorem dX6_waysTo_169 : decode cX6_waysTo 169 = .ok (.goto (-152), 3) := by decide +kernel
theorem dX6_waysTo_172 : decode cX6_waysTo 172 = .ok (.iload 4, 2) := by decide +kernel
theorem dX6_waysTo_174 : decode cX6_waysTo 174 = .ok (.ireturn, 1) := by decide +kernel
theorem dX6_chosen_0 : decode cX6_chosen 0 = .ok (.iload_n 0, 1) := by decide +kernel
theorem dX6_chosen_1 : decode cX6_chosen 1 = .ok (.ifCond .lt 18, 3) := by decide +kernel
theorem dX6_chosen_4 : decode cX6_chosen 4 = .ok (.iload_n 0, 1) := by decide +kernel
theorem dX6_chosen_5 : decode cX6_chosen 5 = .ok (.bipush 6, 2) := by decide +kernel
theorem dX6_chosen_7 : decode cX6_chosen 7 = .ok (.if_icmp .gt 12, 3) := by decide +kernel
theorem dX6_chosen_10 : decode cX6_chosen 10 = .ok (.iload_n 1, 1) := by decide +kernel
theorem dX6_chosen_11 : decode cX6_chosen 11 = .ok (.ifCond .lt 8, 3) := by decide +kernel
theorem dX6_chosen_14 : decode cX6_chosen 14 = .ok (.iload_n 1, 1) := by decide +kernel
theorem dX6_chosen_15 : decode cX6_chosen 15 = .ok (.iload_n 0, 1) := by decide +kernel
theorem dX6_chosen_16 : decode cX6_chosen 16 = .ok (.if_icmp .le 5, 3) := by decide +kernel
theorem dX6_chosen_19 : decode cX6_chosen 19 = .ok (.iconst 0, 1) := by decide +kernel
theorem dX6_chosen_20 : decode cX6_chosen 20 = .ok (.ireturn, 1) := by decide +kernel
theorem dX6_chosen_21 : decode cX6_chosen 21 = .ok (.getstatic 305, 3) := by decide +kernel
theorem dX6_chosen_24 : decode cX6_chosen 24 = .ok (.bipush 7, 2) := by decide +kernel
theorem dX6_chosen_26 : decode cX6_chosen 26 = .ok (.iload_n 0, 1) := by decide +kernel
theorem dX6_chosen_27 : decode cX6_chosen 27 = .ok (.imul, 1) := by decide +kernel
theorem dX6_chosen_28 : decode cX6_chosen 28 = .ok (.iload_n 1, 1) := by decide +kernel
theorem dX6_chosen_29 : decode cX6_chosen 29 = .ok (.iadd, 1) := by decide +kernel
theorem dX6_chosen_30 : decode cX6_chosen 30 = .ok (.iaload, 1) := by decide +kernel
theorem dX6_chosen_31 : decode cX6_chosen 31 = .ok (.ireturn, 1) := by decide +kernel
