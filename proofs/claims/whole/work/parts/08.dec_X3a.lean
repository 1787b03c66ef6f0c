theorem dX3_init_0 : decode cX3_init 0 = .ok (.aload_n 0, 1) := by decide +kernel
theorem dX3_init_1 : decode cX3_init 1 = .ok (.invokespecial 3, 3) := by decide +kernel
theorem dX3_init_4 : decode cX3_init 4 = .ok (.aload_n 0, 1) := by decide +kernel
theorem dX3_init_5 : decode cX3_init 5 = .ok (.sipush 300, 3) := by decide +kernel
theorem dX3_init_8 : decode cX3_init 8 = .ok (.newarray .int, 2) := by decide +kernel
theorem dX3_init_10 : decode cX3_init 10 = .ok (.putfield 9, 3) := by decide +kernel
theorem dX3_init_13 : decode cX3_init 13 = .ok (.aload_n 0, 1) := by decide +kernel
theorem dX3_init_14 : decode cX3_init 14 = .ok (.bipush 64, 2) := by decide +kernel
theorem dX3_init_16 : decode cX3_init 16 = .ok (.newarray .int, 2) := by decide +kernel
theorem dX3_init_18 : decode cX3_init 18 = .ok (.putfield 15, 3) := by decide +kernel
theorem dX3_init_21 : decode cX3_init 21 = .ok (.return_, 1) := by decide +kernel
theorem dX3_read_0 : decode cX3_read 0 = .ok (.aload_n 0, 1) := by decide +kernel
theorem dX3_read_1 : decode cX3_read 1 = .ok (.iload_n 1, 1) := by decide +kernel
theorem dX3_read_2 : decode cX3_read 2 = .ok (.aload_n 0, 1) := by decide +kernel
theorem dX3_read_3 : decode cX3_read 3 = .ok (.getfield 9, 3) := by decide +kernel
theorem dX3_read_6 : decode cX3_read 6 = .ok (.arraylength, 1) := by decide +kernel
theorem dX3_read_7 : decode cX3_read 7 = .ok (.invokestatic 18, 3) := by decide +kernel
theorem dX3_read_10 : decode cX3_read 10 = .ok (.putfield 24, 3) := by decide +kernel
theorem dX3_read_13 : decode cX3_read 13 = .ok (.aload_n 0, 1) := by decide +kernel
theorem dX3_read_14 : decode cX3_read 14 = .ok (.iconst 0, 1) := by decide +kernel
theorem dX3_read_15 : decode cX3_read 15 = .ok (.putfield 28, 3) := by decide +kernel
theorem dX3_read_18 : decode cX3_read 18 = .ok (.aload_n 0, 1) := by decide +kernel
theorem dX3_read_19 : decode cX3_read 19 = .ok (.iconst 0, 1) := by decide +kernel
theorem dX3_read_20 : decode cX3_read 20 = .ok (.putfield 31, 3) := by decide +kernel
theorem dX3_read_23 : decode cX3_read 23 = .ok (.aload_n 0, 1) := by decide +kernel
theorem dX3_read_24 : decode cX3_read 24 = .ok (.iconst (-1), 1) := by decide +kernel
theorem dX3_read_25 : decode cX3_read 25 = .ok (.putfield 34, 3) := by decide +kernel
theorem dX3_read_28 : decode cX3_read 28 = .ok (.aload_n 0, 1) := by decide +kernel
theorem dX3_read_29 : decode cX3_read 29 = .ok (.aload_n 2, 1) := by decide +kernel
theorem dX3_read_30 : decode cX3_read 30 = .ok (.putfield 37, 3) := by decide +kernel
theorem dX3_read_33 : decode cX3_read 33 = .ok (.aload_n 0, 1) := by decide +kernel
theorem dX3_read_34 : decode cX3_read 34 = .ok (.getfield 37, 3) := by decide +kernel
theorem dX3_read_37 : decode cX3_read 37 = .ok (.invokevirtual 41, 3) := by decide +kernel
theorem dX3_read_40 : decode cX3_read 40 = .ok (.aload_n 0, 1) := by decide +kernel
theorem dX3_read_41 : decode cX3_read 41 = .ok (.invokevirtual 46, 3) := by decide +kernel
theorem dX3_read_44 : decode cX3_read 44 = .ok (.iconst 0, 1) := by decide +kernel
theorem dX3_read_45 : decode cX3_read 45 = .ok (.istore_n 3, 1) := by decide +kernel
theorem dX3_read_46 : decode cX3_read 46 = .ok (.iload_n 3, 1) := by decide +kernel
theorem dX3_read_47 : decode cX3_read 47 = .ok (.bipush 24, 2) := by decide +kernel
theorem dX3_read_49 : decode cX3_read 49 = .ok (.if_icmp .gt 30, 3) := by decide +kernel
theorem dX3_read_52 : decode cX3_read 52 = .ok (.aload_n 0, 1) := by decide +kernel
theorem dX3_read_53 : decode cX3_read 53 = .ok (.getfield 31, 3) := by decide +kernel
theorem dX3_read_56 : decode cX3_read 56 = .ok (.ifCond .ne 23, 3) := by decide +kernel
theorem dX3_read_59 : decode cX3_read 59 = .ok (.aload_n 0, 1) := by decide +kernel
theorem dX3_read_60 : decode cX3_read 60 = .ok (.getfield 49, 3) := by decide +kernel
theorem dX3_read_63 : decode cX3_read 63 = .ok (.bipush 38, 2) := by decide +kernel
theorem dX3_read_65 : decode cX3_read 65 = .ok (.if_icmp .eq 14, 3) := by decide +kernel
theorem dX3_read_68 : decode cX3_read 68 = .ok (.aload_n 0, 1) := by decide +kernel
theorem dX3_read_69 : decode cX3_read 69 = .ok (.iload_n 3, 1) := by decide +kernel
theorem dX3_read_70 : decode cX3_read 70 = .ok (.invokevirtual 52, 3) := by decide +kernel
theorem dX3_read_73 : decode cX3_read 73 = .ok (.iinc 3 1, 3) := by decide +kernel
theorem dX3_read_76 : decode cX3_read 76 = .ok (.goto (-30), 3) := by decide +kernel
theorem dX3_read_79 : decode cX3_read 79 = .ok (.return_, 1) := by decide +kernel
theorem dX3_fail_0 : decode cX3_fail 0 = .ok (.aload_n 0, 1) := by decide +kernel
theorem dX3_fail_1 : decode cX3_fail 1 = .ok (.getfield 31, 3) := by decide +kernel
theorem dX3_fail_4 : decode cX3_fail 4 = .ok (.ifCond .ne 16, 3) := by decide +kernel
theorem dX3_fail_7 : decode cX3_fail 7 = .ok (.aload_n 0, 1) := by decide +kernel
theorem dX3_fail_8 : decode cX3_fail 8 = .ok (.iload_n 1, 1) := by decide +kernel
theorem dX3_fail_9 : decode cX3_fail 9 = .ok (.putfield 31, 3) := by decide +kernel
theorem dX3_fail_12 : decode cX3_fail 12 = .ok (.aload_n 0, 1) := by decide +kernel
theorem dX3_fail_13 : decode cX3_fail 13 = .ok (.aload_n 0, 1) := by decide +kernel
theorem dX3_fail_14 : decode cX3_fail 14 = .ok (.getfield 56, 3) := by decide +kernel
theorem dX3_fail_17 : decode cX3_fail 17 = .ok (.putfield 34, 3) := by decide +kernel
theorem dX3_fail_20 : decode cX3_fail 20 = .ok (.return_, 1) := by decide +kernel
theorem dX3_advance_0 : decode cX3_advance 0 = .ok (.aload_n 0, 1) := by decide +kernel
theorem dX3_advance_1 : decode cX3_advance 1 = .ok (.getfield 28, 3) := by decide +kernel
theorem dX3_advance_4 : decode cX3_advance 4 = .ok (.aload_n 0, 1) := by decide +kernel
theorem dX3_advance_5 : decode cX3_advance 5 = .ok (.getfield 24, 3) := by decide +kernel
theorem dX3_advance_8 : decode cX3_advance 8 = .ok (.if_icmp .ge 44, 3) := by decide +kernel
theorem dX3_advance_11 : decode cX3_advance 11 = .ok (.aload_n 0, 1) := by decide +kernel
theorem dX3_advance_12 : decode cX3_advance 12 = .ok (.getfield 9, 3) := by decide +kernel
theorem dX3_advance_15 : decode cX3_advance 15 = .ok (.aload_n 0, 1) := by decide +kernel
theorem dX3_advance_16 : decode cX3_advance 16 = .ok (.getfield 28, 3) := by decide +kernel
theorem dX3_advance_19 : decode cX3_advance 19 = .ok (.iaload, 1) := by decide +kernel
theorem dX3_advance_20 : decode cX3_advance 20 = .ok (.bipush 32, 2) := by decide +kernel
theorem dX3_advance_22 : decode cX3_advance 22 = .ok (.if_icmp .eq 17, 3) := by decide +kernel
theorem dX3_advance_25 : decode cX3_advance 25 = .ok (.aload_n 0, 1) := by decide +kernel
theorem dX3_advance_26 : decode cX3_advance 26 = .ok (.getfield 9, 3) := by decide +kernel
theorem dX3_advance_29 : decode cX3_advance 29 = .ok (.aload_n 0, 1) := by decide +kernel
theorem dX3_advance_30 : decode cX3_advance 30 = .ok (.getfield 28, 3) := by decide +kernel
theorem dX3_advance_33 : decode cX3_advance 33 = .ok (.iaload, 1) := by decide +kernel
theorem dX3_advance_34 : decode cX3_advance 34 = .ok (.bipush 10, 2) := by decide +kernel
theorem dX3_advance_36 : decode cX3_advance 36 = .ok (.if_icmp .ne 16, 3) := by decide +kernel
theorem dX3_advance_39 : decode cX3_advance 39 = .ok (.aload_n 0, 1) := by decide +kernel
theorem dX3_advance_40 : decode cX3_advance 40 = .ok (.dup, 1) := by decide +kernel
theorem dX3_advance_41 : decode cX3_advance 41 = .ok (.getfield 28, 3) := by decide +kernel
theorem dX3_advance_44 : decode cX3_advance 44 = .ok (.iconst 1, 1) := by decide +kernel
theorem dX3_advance_45 : decode cX3_advance 45 = .ok (.iadd, 1) := by decide +kernel
theorem dX3_advance_46 : decode cX3_advance 46 = .ok (.putfield 28, 3) := by decide +kernel
theorem dX3_advance_49 : decode cX3_advance 49 = .ok (.goto (-49), 3) := by decide +kernel
theorem dX3_advance_52 : decode cX3_advance 52 = .ok (.aload_n 0, 1) := by decide +kernel
theorem dX3_advance_53 : decode cX3_advance 53 = .ok (.aload_n 0, 1) := by decide +kernel
theorem dX3_advance_54 : decode cX3_advance 54 = .ok (.getfield 28, 3) := by decide +kernel
theorem dX3_advance_57 : decode cX3_advance 57 = .ok (.putfield 56, 3) := by decide +kernel
theorem dX3_advance_60 : decode cX3_advance 60 = .ok (.aload_n 0, 1) := by decide +kernel
theorem dX3_advance_61 : decode cX3_advance 61 = .ok (.getfield 28, 3) := by decide +kernel
theorem dX3_advance_64 : decode cX3_advance 64 = .ok (.aload_n 0, 1) := by decide +kernel
theorem dX3_advance_65 : decode cX3_advance 65 = .ok (.getfield 24, 3) := by decide +kernel
theorem dX3_advance_68 : decode cX3_advance 68 = .ok (.if_icmp .lt 12, 3) := by decide +kernel
theorem dX3_advance_71 : decode cX3_advance 71 = .ok (.aload_n 0, 1) := by decide +kernel
theorem dX3_advance_72 : decode cX3_advance 72 = .ok (.bipush 38, 2) := by decide +kernel
theorem dX3_advance_74 : decode cX3_advance 74 = .ok (.putfield 49, 3) := by decide +kernel
theorem dX3_advance_77 : decode cX3_advance 77 = .ok (.goto 102, 3) := by decide +kernel
theorem dX3_advance_80 : decode cX3_advance 80 = .ok (.aload_n 0, 1) := by decide +kernel
theorem dX3_advance_81 : decode cX3_advance 81 = .ok (.getfield 9, 3) := by decide +kernel
theorem dX3_advance_84 : decode cX3_advance 84 = .ok (.aload_n 0, 1) := by decide +kernel
theorem dX3_advance_85 : decode cX3_advance 85 = .ok (.getfield 28, 3) := by decide +kernel
theorem dX3_advance_88 : decode cX3_advance 88 = .ok (.iaload, 1) := by decide +kernel
theorem dX3_advance_89 : decode cX3_advance 89 = .ok (.invokestatic 59, 3) := by decide +kernel
theorem dX3_advance_92 : decode cX3_advance 92 = .ok (.ifCond .eq 61, 3) := by decide +kernel
theorem dX3_advance_95 : decode cX3_advance 95 = .ok (.aload_n 0, 1) := by decide +kernel
theorem dX3_advance_96 : decode cX3_advance 96 = .ok (.getfield 28, 3) := by decide +kernel
theorem dX3_advance_99 : decode cX3_advance 99 = .ok (.aload_n 0, 1) := by decide +kernel
theorem dX3_advance_100 : decode cX3_advance 100 = .ok (.getfield 24, 3) := by decide +kernel
theorem dX3_advance_103 : decode cX3_advance 103 = .ok (.if_icmp .ge 31, 3) := by decide +kernel
theorem dX3_advance_106 : decode cX3_advance 106 = .ok (.aload_n 0, 1) := by decide +kernel
theorem dX3_advance_107 : decode cX3_advance 107 = .ok (.getfield 9, 3) := by decide +kernel
theorem dX3_advance_110 : decode cX3_advance 110 = .ok (.aload_n 0, 1) := by decide +kernel
theorem dX3_advance_111 : decode cX3_advance 111 = .ok (.getfield 28, 3) := by decide +kernel
theorem dX3_advance_114 : decode cX3_advance 114 = .ok (.iaload, 1) := by decide +kernel
theorem dX3_advance_115 : decode cX3_advance 115 = .ok (.invokestatic 59, 3) := by decide +kernel
theorem dX3_advance_118 : decode cX3_advance 118 = .ok (.ifCond .eq 16, 3) := by decide +kernel
theorem dX3_advance_121 : decode cX3_advance 121 = .ok (.aload_n 0, 1) := by decide +kernel
theorem dX3_advance_122 : decode cX3_advance 122 = .ok (.dup, 1) := by decide +kernel
theorem dX3_advance_123 : decode cX3_advance 123 = .ok (.getfield 28, 3) := by decide +kernel
theorem dX3_advance_126 : decode cX3_advance 126 = .ok (.iconst 1, 1) := by decide +kernel
theorem dX3_advance_127 : decode cX3_advance 127 = .ok (.iadd, 1) := by decide +kernel
theorem dX3_advance_128 : decode cX3_advance 128 = .ok (.putfield 28, 3) := by decide +kernel
theorem dX3_advance_131 : decode cX3_advance 131 = .ok (.goto (-36), 3) := by decide +kernel
theorem dX3_advance_134 : decode cX3_advance 134 = .ok (.aload_n 0, 1) := by decide +kernel
theorem dX3_advance_135 : decode cX3_advance 135 = .ok (.aload_n 0, 1) := by decide +kernel
theorem dX3_advance_136 : decode cX3_advance 136 = .ok (.aload_n 0, 1) := by decide +kernel
theorem dX3_advance_137 : decode cX3_advance 137 = .ok (.getfield 56, 3) := by decide +kernel
theorem dX3_advance_140 : decode cX3_advance 140 = .ok (.aload_n 0, 1) := by decide +kernel
theorem dX3_advance_141 : decode cX3_advance 141 = .ok (.getfield 28, 3) := by decide +kernel
theorem dX3_advance_144 : decode cX3_advance 144 = .ok (.invokevirtual 63, 3) := by decide +kernel
theorem dX3_advance_147 : decode cX3_advance 147 = .ok (.putfield 49, 3) := by decide +kernel
theorem dX3_advance_150 : decode cX3_advance 150 = .ok (.goto 29, 3) := by decide +kernel
theorem dX3_advance_153 : decode cX3_advance 153 = .ok (.aload_n 0, 1) := by decide +kernel
theorem dX3_advance_154 : decode cX3_advance 154 = .ok (.getfield 9, 3) := by decide +kernel
theorem dX3_advance_157 : decode cX3_advance 157 = .ok (.aload_n 0, 1) := by decide +kernel
theorem dX3_advance_158 : decode cX3_advance 158 = .ok (.getfield 28, 3) := by decide +kernel
theorem dX3_advance_161 : decode cX3_advance 161 = .ok (.iaload, 1) := by decide +kernel
theorem dX3_advance_162 : decode cX3_advance 162 = .ok (.invokestatic 66, 3) := by decide +kernel
theorem dX3_advance_165 : decode cX3_advance 165 = .ok (.ifCond .eq 10, 3) := by decide +kernel
theorem dX3_advance_168 : decode cX3_advance 168 = .ok (.aload_n 0, 1) := by decide +kernel
theorem dX3_advance_169 : decode cX3_advance 169 = .ok (.invokevirtual 69, 3) := by decide +kernel
theorem dX3_advance_172 : decode cX3_advance 172 = .ok (.goto 7, 3) := by decide +kernel
theorem dX3_advance_175 : decode cX3_advance 175 = .ok (.aload_n 0, 1) := by decide +kernel
theorem dX3_advance_176 : decode cX3_advance 176 = .ok (.invokevirtual 72, 3) := by decide +kernel
theorem dX3_advance_179 : decode cX3_advance 179 = .ok (.return_, 1) := by decide +kernel
theorem dX3_isLetter_0 : decode cX3_isLetter 0 = .ok (.iload_n 0, 1) := by decide +kernel
theorem dX3_isLetter_1 : decode cX3_isLetter 1 = .ok (.bipush 97, 2) := by decide +kernel
theorem dX3_isLetter_3 : decode cX3_isLetter 3 = .ok (.if_icmp .lt 9, 3) := by decide +kernel
theorem dX3_isLetter_6 : decode cX3_isLetter 6 = .ok (.iload_n 0, 1) := by decide +kernel
theorem dX3_isLetter_7 : decode cX3_isLetter 7 = .ok (.bipush 122, 2) := by decide +kernel
theorem dX3_isLetter_9 : decode cX3_isLetter 9 = .ok (.if_icmp .le 15, 3) := by decide +kernel
theorem dX3_isLetter_12 : decode cX3_isLetter 12 = .ok (.iload_n 0, 1) := by decide +kernel
theorem dX3_isLetter_13 : decode cX3_isLetter 13 = .ok (.bipush 65, 2) := by decide +kernel
theorem dX3_isLetter_15 : decode cX3_isLetter 15 = .ok (.if_icmp .lt 13, 3) := by decide +kernel
theorem dX3_isLetter_18 : decode cX3_isLetter 18 = .ok (.iload_n 0, 1) := by decide +kernel
theorem dX3_isLetter_19 : decode cX3_isLetter 19 = .ok (.bipush 90, 2) := by decide +kernel
theorem dX3_isLetter_21 : decode cX3_isLetter 21 = .ok (.if_icmp .gt 7, 3) := by decide +kernel
theorem dX3_isLetter_24 : decode cX3_isLetter 24 = .ok (.iconst 1, 1) := by decide +kernel
theorem dX3_isLetter_25 : decode cX3_isLetter 25 = .ok (.goto 4, 3) := by decide +kernel
theorem dX3_isLetter_28 : decode cX3_isLetter 28 = .ok (.iconst 0, 1) := by decide +kernel
theorem dX3_isLetter_29 : decode cX3_isLetter 29 = .ok (.ireturn, 1) := by decide +kernel
theorem dX3_isDigit_0 : decode cX3_isDigit 0 = .ok (.iload_n 0, 1) := by decide +kernel
theorem dX3_isDigit_1 : decode cX3_isDigit 1 = .ok (.bipush 48, 2) := by decide +kernel
theorem dX3_isDigit_3 : decode cX3_isDigit 3 = .ok (.if_icmp .lt 13, 3) := by decide +kernel
theorem dX3_isDigit_6 : decode cX3_isDigit 6 = .ok (.iload_n 0, 1) := by decide +kernel
theorem dX3_isDigit_7 : decode cX3_isDigit 7 = .ok (.bipush 57, 2) := by decide +kernel
theorem dX3_isDigit_9 : decode cX3_isDigit 9 = .ok (.if_icmp .gt 7, 3) := by decide +kernel
theorem dX3_isDigit_12 : decode cX3_isDigit 12 = .ok (.iconst 1, 1) := by decide +kernel
theorem dX3_isDigit_13 : decode cX3_isDigit 13 = .ok (.goto 4, 3) := by decide +kernel
theorem dX3_isDigit_16 : decode cX3_isDigit 16 = .ok (.iconst 0, 1) := by decide +kernel
theorem dX3_isDigit_17 : decode cX3_isDigit 17 = .ok (.ireturn, 1) := by decide +kernel
theorem dX3_wordAt_0 : decode cX3_wordAt 0 = .ok (.iconst 0, 1) := by decide +kernel
theorem dX3_wordAt_1 : decode cX3_wordAt 1 = .ok (.istore_n 3, 1) := by decide +kernel
theorem dX3_wordAt_2 : decode cX3_wordAt 2 = .ok (.iload_n 1, 1) := by decide +kernel
theorem dX3_wordAt_3 : decode cX3_wordAt 3 = .ok (.istore 4, 2) := by decide +kernel
theorem dX3_wordAt_5 : decode cX3_wordAt 5 = .ok (.iconst 1, 1) := by decide +kernel
theorem dX3_wordAt_6 : decode cX3_wordAt 6 = .ok (.istore 5, 2) := by decide +kernel
theorem dX3_wordAt_8 : decode cX3_wordAt 8 = .ok (.iconst 0, 1) := by decide +kernel
theorem dX3_wordAt_9 : decode cX3_wordAt 9 = .ok (.istore 6, 2) := by decide +kernel
theorem dX3_wordAt_11 : decode cX3_wordAt 11 = .ok (.iload 6, 2) := by decide +kernel
theorem dX3_wordAt_13 : decode cX3_wordAt 13 = .ok (.ldc 75, 2) := by decide +kernel
theorem dX3_wordAt_15 : decode cX3_wordAt 15 = .ok (.invokevirtual 77, 3) := by decide +kernel
theorem dX3_wordAt_18 : decode cX3_wordAt 18 = .ok (.if_icmp .ge 82, 3) := by decide +kernel
theorem dX3_wordAt_21 : decode cX3_wordAt 21 = .ok (.ldc 75, 2) := by decide +kernel
theorem dX3_wordAt_23 : decode cX3_wordAt 23 = .ok (.iload 6, 2) := by decide +kernel
theorem dX3_wordAt_25 : decode cX3_wordAt 25 = .ok (.invokevirtual 83, 3) := by decide +kernel
theorem dX3_wordAt_28 : decode cX3_wordAt 28 = .ok (.istore 7, 2) := by decide +kernel
theorem dX3_wordAt_30 : decode cX3_wordAt 30 = .ok (.iload 7, 2) := by decide +kernel
theorem dX3_wordAt_32 : decode cX3_wordAt 32 = .ok (.bipush 32, 2) := by decide +kernel
theorem dX3_wordAt_34 : decode cX3_wordAt 34 = .ok (.if_icmp .ne 28, 3) := by decide +kernel
theorem dX3_wordAt_37 : decode cX3_wordAt 37 = .ok (.iload 5, 2) := by decide +kernel
theorem dX3_wordAt_39 : decode cX3_wordAt 39 = .ok (.ifCond .eq 11, 3) := by decide +kernel
theorem dX3_wordAt_42 : decode cX3_wordAt 42 = .ok (.iload 4, 2) := by decide +kernel
theorem dX3_wordAt_44 : decode cX3_wordAt 44 = .ok (.iload_n 2, 1) := by decide +kernel
theorem dX3_wordAt_45 : decode cX3_wordAt 45 = .ok (.if_icmp .ne 5, 3) := by decide +kernel
theorem dX3_wordAt_48 : decode cX3_wordAt 48 = .ok (.iload_n 3, 1) := by decide +kernel
theorem dX3_wordAt_49 : decode cX3_wordAt 49 = .ok (.ireturn, 1) := by decide +kernel
theorem dX3_wordAt_50 : decode cX3_wordAt 50 = .ok (.iinc 3 1, 3) := by decide +kernel
theorem dX3_wordAt_53 : decode cX3_wordAt 53 = .ok (.iload_n 1, 1) := by decide +kernel
theorem dX3_wordAt_54 : decode cX3_wordAt 54 = .ok (.istore 4, 2) := by decide +kernel
theorem dX3_wordAt_56 : decode cX3_wordAt 56 = .ok (.iconst 1, 1) := by decide +kernel
theorem dX3_wordAt_57 : decode cX3_wordAt 57 = .ok (.istore 5, 2) := by decide +kernel
theorem dX3_wordAt_59 : decode cX3_wordAt 59 = .ok (.goto 35, 3) := by decide +kernel
theorem dX3_wordAt_62 : decode cX3_wordAt 62 = .ok (.iload 5, 2) := by decide +kernel
theorem dX3_wordAt_64 : decode cX3_wordAt 64 = .ok (.ifCond .eq 27, 3) := by decide +kernel
theorem dX3_wordAt_67 : decode cX3_wordAt 67 = .ok (.iload 4, 2) := by decide +kernel
theorem dX3_wordAt_69 : decode cX3_wordAt 69 = .ok (.iload_n 2, 1) := by decide +kernel
theorem dX3_wordAt_70 : decode cX3_wordAt 70 = .ok (.if_icmp .ge 21, 3) := by decide +kernel
theorem dX3_wordAt_73 : decode cX3_wordAt 73 = .ok (.aload_n 0, 1) := by decide +kernel
theorem dX3_wordAt_74 : decode cX3_wordAt 74 = .ok (.getfield 9, 3) := by decide +kernel
theorem dX3_wordAt_77 : decode cX3_wordAt 77 = .ok (.iload 4, 2) := by decide +kernel
theorem dX3_wordAt_79 : decode cX3_wordAt 79 = .ok (.iaload, 1) := by decide +kernel
theorem dX3_wordAt_80 : decode cX3_wordAt 80 = .ok (.iload 7, 2) := by decide +kernel
theorem dX3_wordAt_82 : decode cX3_wordAt 82 = .ok (.if_icmp .ne 9, 3) := by decide +kernel
theorem dX3_wordAt_85 : decode cX3_wordAt 85 = .ok (.iinc 4 1, 3) := by decide +kernel
theorem dX3_wordAt_88 : decode cX3_wordAt 88 = .ok (.goto 6, 3) := by decide +kernel
theorem dX3_wordAt_91 : decode cX3_wordAt 91 = .ok (.iconst 0, 1) := by decide +kernel
theorem dX3_wordAt_92 : decode cX3_wordAt 92 = .ok (.istore 5, 2) := by decide +kernel
theorem dX3_wordAt_94 : decode cX3_wordAt 94 = .ok (.iinc 6 1, 3) := by decide +kernel
theorem dX3_wordAt_97 : decode cX3_wordAt 97 = .ok (.goto (-86), 3) := by decide +kernel
theorem dX3_wordAt_100 : decode cX3_wordAt 100 = .ok (.bipush 39, 2) := by decide +kernel
theorem dX3_wordAt_102 : decode cX3_wordAt 102 = .ok (.ireturn, 1) := by decide +kernel
theorem dX3_readNumber_0 : decode cX3_readNumber 0 = .ok (.aload_n 0, 1) := by decide +kernel
theorem dX3_readNumber_1 : decode cX3_readNumber 1 = .ok (.bipush 37, 2) := by decide +kernel
theorem dX3_readNumber_3 : decode cX3_readNumber 3 = .ok (.putfield 49, 3) := by decide +kernel
theorem dX3_readNumber_6 : decode cX3_readNumber 6 = .ok (.aload_n 0, 1) := by decide +kernel
theorem dX3_readNumber_7 : decode cX3_readNumber 7 = .ok (.iconst 0, 1) := by decide +kernel
theorem dX3_readNumber_8 : decode cX3_readNumber 8 = .ok (.putfield 87, 3) := by decide +kernel
theorem dX3_readNumber_11 : decode cX3_readNumber 11 = .ok (.aload_n 0, 1) := by decide +kernel
theorem dX3_readNumber_12 : decode cX3_readNumber 12 = .ok (.getfield 28, 3) := by decide +kernel
theorem dX3_readNumber_15 : decode cX3_readNumber 15 = .ok (.aload_n 0, 1) := by decide +kernel
theorem dX3_readNumber_16 : decode cX3_readNumber 16 = .ok (.getfield 24, 3) := by decide +kernel
theorem dX3_readNumber_19 : decode cX3_readNumber 19 = .ok (.if_icmp .ge 61, 3) := by decide +kernel
theorem dX3_readNumber_22 : decode cX3_readNumber 22 = .ok (.aload_n 0, 1) := by decide +kernel
theorem dX3_readNumber_23 : decode cX3_readNumber 23 = .ok (.getfield 9, 3) := by decide +kernel
theorem dX3_readNumber_26 : decode cX3_readNumber 26 = .ok (.aload_n 0, 1) := by decide +kernel
theorem dX3_readNumber_27 : decode cX3_readNumber 27 = .ok (.getfield 28, 3) := by decide +kernel
theorem dX3_readNumber_30 : decode cX3_readNumber 30 = .ok (.iaload, 1) := by decide +kernel
theorem dX3_readNumber_31 : decode cX3_readNumber 31 = .ok (.invokestatic 66, 3) := by decide +kernel
theorem dX3_readNumber_34 : decode cX3_readNumber 34 = .ok (.ifCond .eq 46, 3) := by decide +kernel
theorem dX3_readNumber_37 : decode cX3_readNumber 37 = .ok (.aload_n 0, 1) := by decide +kernel
theorem dX3_readNumber_38 : decode cX3_readNumber 38 = .ok (.sipush 10000, 3) := by decide +kernel
theorem dX3_readNumber_41 : decode cX3_readNumber 41 = .ok (.aload_n 0, 1) := by decide +kernel
theorem dX3_readNumber_42 : decode cX3_readNumber 42 = .ok (.getfield 87, 3) := by decide +kernel
theorem dX3_readNumber_45 : decode cX3_readNumber 45 = .ok (.bipush 10, 2) := by decide +kernel
theorem dX3_readNumber_47 : decode cX3_readNumber 47 = .ok (.imul, 1) := by decide +kernel
theorem dX3_readNumber_48 : decode cX3_readNumber 48 = .ok (.aload_n 0, 1) := by decide +kernel
theorem dX3_readNumber_49 : decode cX3_readNumber 49 = .ok (.getfield 9, 3) := by decide +kernel
theorem dX3_readNumber_52 : decode cX3_readNumber 52 = .ok (.aload_n 0, 1) := by decide +kernel
theorem dX3_readNumber_53 : decode cX3_readNumber 53 = .ok (.getfield 28, 3) := by decide +kernel
theorem dX3_readNumber_56 : decode cX3_readNumber 56 = .ok (.iaload, 1) := by decide +kernel
theorem dX3_readNumber_57 : decode cX3_readNumber 57 = .ok (.iadd, 1) := by decide +kernel
theorem dX3_readNumber_58 : decode cX3_readNumber 58 = .ok (.bipush 48, 2) := by decide +kernel
theorem dX3_readNumber_60 : decode cX3_readNumber 60 = .ok (.isub, 1) := by decide +kernel
theorem dX3_readNumber_61 : decode cX3_readNumber 61 = .ok (.invokestatic 18, 3) := by decide +kernel
theorem dX3_readNumber_64 : decode cX3_readNumber 64 = .ok (.putfield 87, 3) := by decide +kernel
theorem dX3_readNumber_67 : decode cX3_readNumber 67 = .ok (.aload_n 0, 1) := by decide +kernel
theorem dX3_readNumber_68 : decode cX3_readNumber 68 = .ok (.dup, 1) := by decide +kernel
theorem dX3_readNumber_69 : decode cX3_readNumber 69 = .ok (.getfield 28, 3) := by decide +kernel
theorem dX3_readNumber_72 : decode cX3_readNumber 72 = .ok (.iconst 1, 1) := by decide +kernel
theorem dX3_readNumber_73 : decode cX3_readNumber 73 = .ok (.iadd, 1) := by decide +kernel
theorem dX3_readNumber_74 : decode cX3_readNumber 74 = .ok (.putfield 28, 3) := by decide +kernel
theorem dX3_readNumber_77 : decode cX3_readNumber 77 = .ok (.goto (-66), 3) := by decide +kernel
theorem dX3_readNumber_80 : decode cX3_readNumber 80 = .ok (.return_, 1) := by decide +kernel
theorem dX3_readSign_0 : decode cX3_readSign 0 = .ok (.ldc 90, 2) := by decide +kernel
theorem dX3_readSign_2 : decode cX3_readSign 2 = .ok (.aload_n 0, 1) := by decide +kernel
theorem dX3_readSign_3 : decode cX3_readSign 3 = .ok (.getfield 9, 3) := by decide +kernel
theorem dX3_readSign_6 : decode cX3_readSign 6 = .ok (.aload_n 0, 1) := by decide +kernel
theorem dX3_readSign_7 : decode cX3_readSign 7 = .ok (.getfield 28, 3) := by decide +kernel
theorem dX3_readSign_10 : decode cX3_readSign 10 = .ok (.iaload, 1) := by decide +kernel
theorem dX3_readSign_11 : decode cX3_readSign 11 = .ok (.i2c, 1) := by decide +kernel
theorem dX3_readSign_12 : decode cX3_readSign 12 = .ok (.invokevirtual 92, 3) := by decide +kernel
theorem dX3_readSign_15 : decode cX3_readSign 15 = .ok (.istore_n 1, 1) := by decide +kernel
theorem dX3_readSign_16 : decode cX3_readSign 16 = .ok (.aload_n 0, 1) := by decide +kernel
theorem dX3_readSign_17 : decode cX3_readSign 17 = .ok (.iload_n 1, 1) := by decide +kernel
theorem dX3_readSign_18 : decode cX3_readSign 18 = .ok (.ifCond .ge 8, 3) := by decide +kernel
theorem dX3_readSign_21 : decode cX3_readSign 21 = .ok (.bipush 39, 2) := by decide +kernel
theorem dX3_readSign_23 : decode cX3_readSign 23 = .ok (.goto 7, 3) := by decide +kernel
theorem dX3_readSign_26 : decode cX3_readSign 26 = .ok (.bipush 24, 2) := by decide +kernel
theorem dX3_readSign_28 : decode cX3_readSign 28 = .ok (.iload_n 1, 1) := by decide +kernel
theorem dX3_readSign_29 : decode cX3_readSign 29 = .ok (.iadd, 1) := by decide +kernel
theorem dX3_readSign_30 : decode cX3_readSign 30 = .ok (.putfield 49, 3) := by decide +kernel
theorem dX3_readSign_33 : decode cX3_readSign 33 = .ok (.aload_n 0, 1) := by decide +kernel
theorem dX3_readSign_34 : decode cX3_readSign 34 = .ok (.dup, 1) := by decide +kernel
theorem dX3_readSign_35 : decode cX3_readSign 35 = .ok (.getfield 28, 3) := by decide +kernel
theorem dX3_readSign_38 : decode cX3_readSign 38 = .ok (.iconst 1, 1) := by decide +kernel
theorem dX3_readSign_39 : decode cX3_readSign 39 = .ok (.iadd, 1) := by decide +kernel
theorem dX3_readSign_40 : decode cX3_readSign 40 = .ok (.putfield 28, 3) := by decide +kernel
theorem dX3_readSign_43 : decode cX3_readSign 43 = .ok (.aload_n 0, 1) := by decide +kernel
theorem dX3_readSign_44 : decode cX3_readSign 44 = .ok (.getfield 49, 3) := by decide +kernel
theorem dX3_readSign_47 : decode cX3_readSign 47 = .ok (.bipush 24, 2) := by decide +kernel
theorem dX3_readSign_49 : decode cX3_readSign 49 = .ok (.if_icmp .eq 12, 3) := by decide +kernel
theorem dX3_readSign_52 : decode cX3_readSign 52 = .ok (.aload_n 0, 1) := by decide +kernel
theorem dX3_readSign_53 : decode cX3_readSign 53 = .ok (.getfield 49, 3) := by decide +kernel
theorem dX3_readSign_56 : decode cX3_readSign 56 = .ok (.bipush 25, 2) := by decide +kernel
theorem dX3_readSign_58 : decode cX3_readSign 58 = .ok (.if_icmp .ne 58, 3) := by decide +kernel
theorem dX3_readSign_61 : decode cX3_readSign 61 = .ok (.aload_n 0, 1) := by decide +kernel
theorem dX3_readSign_62 : decode cX3_readSign 62 = .ok (.getfield 28, 3) := by decide +kernel
theorem dX3_readSign_65 : decode cX3_readSign 65 = .ok (.aload_n 0, 1) := by decide +kernel
theorem dX3_readSign_66 : decode cX3_readSign 66 = .ok (.getfield 24, 3) := by decide +kernel
theorem dX3_readSign_69 : decode cX3_readSign 69 = .ok (.if_icmp .ge 47, 3) := by decide +kernel
theorem dX3_readSign_72 : decode cX3_readSign 72 = .ok (.aload_n 0, 1) := by decide +kernel
theorem dX3_readSign_73 : decode cX3_readSign 73 = .ok (.getfield 9, 3) := by decide +kernel
theorem dX3_readSign_76 : decode cX3_readSign 76 = .ok (.aload_n 0, 1) := by decide +kernel
theorem dX3_readSign_77 : decode cX3_readSign 77 = .ok (.getfield 28, 3) := by decide +kernel
theorem dX3_readSign_80 : decode cX3_readSign 80 = .ok (.iaload, 1) := by decide +kernel
theorem dX3_readSign_81 : decode cX3_readSign 81 = .ok (.bipush 61, 2) := by decide +kernel
theorem dX3_readSign_83 : decode cX3_readSign 83 = .ok (.if_icmp .ne 33, 3) := by decide +kernel
theorem dX3_readSign_86 : decode cX3_readSign 86 = .ok (.aload_n 0, 1) := by decide +kernel
theorem dX3_readSign_87 : decode cX3_readSign 87 = .ok (.aload_n 0, 1) := by decide +kernel
theorem dX3_readSign_88 : decode cX3_readSign 88 = .ok (.getfield 49, 3) := by decide +kernel
theorem dX3_readSign_91 : decode cX3_readSign 91 = .ok (.bipush 24, 2) := by decide +kernel
theorem dX3_readSign_93 : decode cX3_readSign 93 = .ok (.if_icmp .ne 8, 3) := by decide +kernel
theorem dX3_readSign_96 : decode cX3_readSign 96 = .ok (.bipush 35, 2) := by decide +kernel
theorem dX3_readSign_98 : decode cX3_readSign 98 = .ok (.goto 5, 3) := by decide +kernel
theorem dX3_readSign_101 : decode cX3_readSign 101 = .ok (.bipush 36, 2) := by decide +kernel
theorem dX3_readSign_103 : decode cX3_readSign 103 = .ok (.putfield 49, 3) := by decide +kernel
theorem dX3_readSign_106 : decode cX3_readSign 106 = .ok (.aload_n 0, 1) := by decide +kernel
theorem dX3_readSign_107 : decode cX3_readSign 107 = .ok (.dup, 1) := by decide +kernel
theorem dX3_readSign_108 : decode cX3_readSign 108 = .ok (.getfield 28, 3) := by decide +kernel
theorem dX3_readSign_111 : decode cX3_readSign 111 = .ok (.iconst 1, 1) := by decide +kernel
theorem dX3_readSign_112 : decode cX3_readSign 112 = .ok (.iadd, 1) := by decide +kernel
theorem dX3_readSign_113 : decode cX3_readSign 113 = .ok (.putfield 28, 3) := by decide +kernel
theorem dX3_readSign_116 : decode cX3_readSign 116 = .ok (.return_, 1) := by decide +kernel
theorem dX3_readClause_0 : decode cX3_readClause 0 = .ok (.aload_n 0, 1) := by decide +kernel
theorem dX3_readClause_1 : decode cX3_readClause 1 = .ok (.getfield 49, 3) := by decide +kernel
theorem dX3_readClause_4 : decode cX3_readClause 4 = .ok (.istore_n 2, 1) := by decide +kernel
theorem dX3_readClause_5 : decode cX3_readClause 5 = .ok (.iload_n 2, 1) := by decide +kernel
theorem dX3_readClause_6 : decode cX3_readClause 6 = .ok (.ifCond .lt 9, 3) := by decide +kernel
theorem dX3_readClause_9 : decode cX3_readClause 9 = .ok (.iload_n 2, 1) := by decide +kernel
theorem dX3_readClause_10 : decode cX3_readClause 10 = .ok (.bipush 6, 2) := by decide +kernel
theorem dX3_readClause_12 : decode cX3_readClause 12 = .ok (.if_icmp .le 11, 3) := by decide +kernel
theorem dX3_readClause_15 : decode cX3_readClause 15 = .ok (.aload_n 0, 1) := by decide +kernel
theorem dX3_readClause_16 : decode cX3_readClause 16 = .ok (.iconst 1, 1) := by decide +kernel
theorem dX3_readClause_17 : decode cX3_readClause 17 = .ok (.invokevirtual 96, 3) := by decide +kernel
theorem dX3_readClause_20 : decode cX3_readClause 20 = .ok (.goto 85, 3) := by decide +kernel
theorem dX3_readClause_23 : decode cX3_readClause 23 = .ok (.iload_n 2, 1) := by decide +kernel
theorem dX3_readClause_24 : decode cX3_readClause 24 = .ok (.iconst 2, 1) := by decide +kernel
theorem dX3_readClause_25 : decode cX3_readClause 25 = .ok (.if_icmp .gt 22, 3) := by decide +kernel
theorem dX3_readClause_28 : decode cX3_readClause 28 = .ok (.aload_n 0, 1) := by decide +kernel
theorem dX3_readClause_29 : decode cX3_readClause 29 = .ok (.getfield 37, 3) := by decide +kernel
theorem dX3_readClause_32 : decode cX3_readClause 32 = .ok (.iload_n 2, 1) := by decide +kernel
theorem dX3_readClause_33 : decode cX3_readClause 33 = .ok (.invokevirtual 99, 3) := by decide +kernel
theorem dX3_readClause_36 : decode cX3_readClause 36 = .ok (.ifCond .eq 11, 3) := by decide +kernel
theorem dX3_readClause_39 : decode cX3_readClause 39 = .ok (.aload_n 0, 1) := by decide +kernel
theorem dX3_readClause_40 : decode cX3_readClause 40 = .ok (.iconst 4, 1) := by decide +kernel
theorem dX3_readClause_41 : decode cX3_readClause 41 = .ok (.invokevirtual 96, 3) := by decide +kernel
theorem dX3_readClause_44 : decode cX3_readClause 44 = .ok (.goto 61, 3) := by decide +kernel
theorem dX3_readClause_47 : decode cX3_readClause 47 = .ok (.iload_n 1, 1) := by decide +kernel
theorem dX3_readClause_48 : decode cX3_readClause 48 = .ok (.bipush 24, 2) := by decide +kernel
theorem dX3_readClause_50 : decode cX3_readClause 50 = .ok (.if_icmp .lt 12, 3) := by decide +kernel
theorem dX3_readClause_53 : decode cX3_readClause 53 = .ok (.aload_n 0, 1) := by decide +kernel
theorem dX3_readClause_54 : decode cX3_readClause 54 = .ok (.bipush 6, 2) := by decide +kernel
theorem dX3_readClause_56 : decode cX3_readClause 56 = .ok (.invokevirtual 96, 3) := by decide +kernel
theorem dX3_readClause_59 : decode cX3_readClause 59 = .ok (.goto 46, 3) := by decide +kernel
theorem dX3_readClause_62 : decode cX3_readClause 62 = .ok (.aload_n 0, 1) := by decide +kernel
theorem dX3_readClause_63 : decode cX3_readClause 63 = .ok (.getfield 37, 3) := by decide +kernel
theorem dX3_readClause_66 : decode cX3_readClause 66 = .ok (.getfield 102, 3) := by decide +kernel
theorem dX3_readClause_69 : decode cX3_readClause 69 = .ok (.iload_n 1, 1) := by decide +kernel
theorem dX3_readClause_70 : decode cX3_readClause 70 = .ok (.iload_n 2, 1) := by decide +kernel
theorem dX3_readClause_71 : decode cX3_readClause 71 = .ok (.iastore, 1) := by decide +kernel
theorem dX3_readClause_72 : decode cX3_readClause 72 = .ok (.aload_n 0, 1) := by decide +kernel
theorem dX3_readClause_73 : decode cX3_readClause 73 = .ok (.getfield 37, 3) := by decide +kernel
theorem dX3_readClause_76 : decode cX3_readClause 76 = .ok (.iload_n 1, 1) := by decide +kernel
theorem dX3_readClause_77 : decode cX3_readClause 77 = .ok (.iconst 1, 1) := by decide +kernel
theorem dX3_readClause_78 : decode cX3_readClause 78 = .ok (.iadd, 1) := by decide +kernel
theorem dX3_readClause_79 : decode cX3_readClause 79 = .ok (.putfield 105, 3) := by decide +kernel
theorem dX3_readClause_82 : decode cX3_readClause 82 = .ok (.aload_n 0, 1) := by decide +kernel
theorem dX3_readClause_83 : decode cX3_readClause 83 = .ok (.invokevirtual 46, 3) := by decide +kernel
theorem dX3_readClause_86 : decode cX3_readClause 86 = .ok (.iload_n 2, 1) := by decide +kernel
theorem dX3_readClause_87 : decode cX3_readClause 87 = .ok (.iconst 2, 1) := by decide +kernel
theorem dX3_readClause_88 : decode cX3_readClause 88 = .ok (.if_icmp .gt 11, 3) := by decide +kernel
theorem dX3_readClause_91 : decode cX3_readClause 91 = .ok (.aload_n 0, 1) := by decide +kernel
theorem dX3_readClause_92 : decode cX3_readClause 92 = .ok (.iload_n 2, 1) := by decide +kernel
theorem dX3_readClause_93 : decode cX3_readClause 93 = .ok (.invokevirtual 108, 3) := by decide +kernel
theorem dX3_readClause_96 : decode cX3_readClause 96 = .ok (.goto 9, 3) := by decide +kernel
theorem dX3_readClause_99 : decode cX3_readClause 99 = .ok (.aload_n 0, 1) := by decide +kernel
theorem dX3_readClause_100 : decode cX3_readClause 100 = .ok (.iload_n 2, 1) := by decide +kernel
theorem dX3_readClause_101 : decode cX3_readClause 101 = .ok (.iload_n 1, 1) := by decide +kernel
theorem dX3_readClause_102 : decode cX3_readClause 102 = .ok (.invokevirtual 111, 3) := by decide +kernel
theorem dX3_readClause_105 : decode cX3_readClause 105 = .ok (.return_, 1) := by decide +kernel
theorem dX3_readDeed_0 : decode cX3_readDeed 0 = .ok (.iload_n 1, 1) := by decide +kernel
theorem dX3_readDeed_1 : decode cX3_readDeed 1 = .ok (.iconst 3, 1) := by decide +kernel
theorem dX3_readDeed_2 : decode cX3_readDeed 2 = .ok (.if_icmp .ne 43, 3) := by decide +kernel
theorem dX3_readDeed_5 : decode cX3_readDeed 5 = .ok (.aload_n 0, 1) := by decide +kernel
theorem dX3_readDeed_6 : decode cX3_readDeed 6 = .ok (.getfield 37, 3) := by decide +kernel
theorem dX3_readDeed_9 : decode cX3_readDeed 9 = .ok (.getfield 115, 3) := by decide +kernel
theorem dX3_readDeed_12 : decode cX3_readDeed 12 = .ok (.iload_n 2, 1) := by decide +kernel
theorem dX3_readDeed_13 : decode cX3_readDeed 13 = .ok (.aload_n 0, 1) := by decide +kernel
theorem dX3_readDeed_14 : decode cX3_readDeed 14 = .ok (.iconst 0, 1) := by decide +kernel
theorem dX3_readDeed_15 : decode cX3_readDeed 15 = .ok (.bipush 8, 2) := by decide +kernel
theorem dX3_readDeed_17 : decode cX3_readDeed 17 = .ok (.invokevirtual 118, 3) := by decide +kernel
theorem dX3_readDeed_20 : decode cX3_readDeed 20 = .ok (.iastore, 1) := by decide +kernel
theorem dX3_readDeed_21 : decode cX3_readDeed 21 = .ok (.aload_n 0, 1) := by decide +kernel
theorem dX3_readDeed_22 : decode cX3_readDeed 22 = .ok (.bipush 7, 2) := by decide +kernel
theorem dX3_readDeed_24 : decode cX3_readDeed 24 = .ok (.invokevirtual 121, 3) := by decide +kernel
theorem dX3_readDeed_27 : decode cX3_readDeed 27 = .ok (.aload_n 0, 1) := by decide +kernel
theorem dX3_readDeed_28 : decode cX3_readDeed 28 = .ok (.getfield 37, 3) := by decide +kernel
theorem dX3_readDeed_31 : decode cX3_readDeed 31 = .ok (.getfield 124, 3) := by decide +kernel
theorem dX3_readDeed_34 : decode cX3_readDeed 34 = .ok (.iload_n 2, 1) := by decide +kernel
theorem dX3_readDeed_35 : decode cX3_readDeed 35 = .ok (.aload_n 0, 1) := by decide +kernel
theorem dX3_readDeed_36 : decode cX3_readDeed 36 = .ok (.iconst 0, 1) := by decide +kernel
theorem dX3_readDeed_37 : decode cX3_readDeed 37 = .ok (.iconst 2, 1) := by decide +kernel
theorem dX3_readDeed_38 : decode cX3_readDeed 38 = .ok (.invokevirtual 118, 3) := by decide +kernel
theorem dX3_readDeed_41 : decode cX3_readDeed 41 = .ok (.iastore, 1) := by decide +kernel
theorem dX3_readDeed_42 : decode cX3_readDeed 42 = .ok (.goto 87, 3) := by decide +kernel
theorem dX3_readDeed_45 : decode cX3_readDeed 45 = .ok (.iload_n 1, 1) := by decide +kernel
theorem dX3_readDeed_46 : decode cX3_readDeed 46 = .ok (.iconst 4, 1) := by decide +kernel
theorem dX3_readDeed_47 : decode cX3_readDeed 47 = .ok (.if_icmp .ne 43, 3) := by decide +kernel
theorem dX3_readDeed_50 : decode cX3_readDeed 50 = .ok (.aload_n 0, 1) := by decide +kernel
theorem dX3_readDeed_51 : decode cX3_readDeed 51 = .ok (.getfield 37, 3) := by decide +kernel
theorem dX3_readDeed_54 : decode cX3_readDeed 54 = .ok (.getfield 115, 3) := by decide +kernel
theorem dX3_readDeed_57 : decode cX3_readDeed 57 = .ok (.iload_n 2, 1) := by decide +kernel
theorem dX3_readDeed_58 : decode cX3_readDeed 58 = .ok (.aload_n 0, 1) := by decide +kernel
theorem dX3_readDeed_59 : decode cX3_readDeed 59 = .ok (.iconst 0, 1) := by decide +kernel
theorem dX3_readDeed_60 : decode cX3_readDeed 60 = .ok (.bipush 8, 2) := by decide +kernel
theorem dX3_readDeed_62 : decode cX3_readDeed 62 = .ok (.invokevirtual 118, 3) := by decide +kernel
theorem dX3_readDeed_65 : decode cX3_readDeed 65 = .ok (.iastore, 1) := by decide +kernel
theorem dX3_readDeed_66 : decode cX3_readDeed 66 = .ok (.aload_n 0, 1) := by decide +kernel
theorem dX3_readDeed_67 : decode cX3_readDeed 67 = .ok (.bipush 8, 2) := by decide +kernel
theorem dX3_readDeed_69 : decode cX3_readDeed 69 = .ok (.invokevirtual 121, 3) := by decide +kernel
theorem dX3_readDeed_72 : decode cX3_readDeed 72 = .ok (.aload_n 0, 1) := by decide +kernel
theorem dX3_readDeed_73 : decode cX3_readDeed 73 = .ok (.getfield 37, 3) := by decide +kernel
theorem dX3_readDeed_76 : decode cX3_readDeed 76 = .ok (.getfield 124, 3) := by decide +kernel
theorem dX3_readDeed_79 : decode cX3_readDeed 79 = .ok (.iload_n 2, 1) := by decide +kernel
theorem dX3_readDeed_80 : decode cX3_readDeed 80 = .ok (.aload_n 0, 1) := by decide +kernel
theorem dX3_readDeed_81 : decode cX3_readDeed 81 = .ok (.iconst 0, 1) := by decide +kernel
theorem dX3_readDeed_82 : decode cX3_readDeed 82 = .ok (.iconst 1, 1) := by decide +kernel
theorem dX3_readDeed_83 : decode cX3_readDeed 83 = .ok (.invokevirtual 118, 3) := by decide +kernel
theorem dX3_readDeed_86 : decode cX3_readDeed 86 = .ok (.iastore, 1) := by decide +kernel
theorem dX3_readDeed_87 : decode cX3_readDeed 87 = .ok (.goto 42, 3) := by decide +kernel
theorem dX3_readDeed_90 : decode cX3_readDeed 90 = .ok (.iload_n 1, 1) := by decide +kernel
theorem dX3_readDeed_91 : decode cX3_readDeed 91 = .ok (.iconst 5, 1) := by decide +kernel
theorem dX3_readDeed_92 : decode cX3_readDeed 92 = .ok (.if_icmp .ne 21, 3) := by decide +kernel
theorem dX3_readDeed_95 : decode cX3_readDeed 95 = .ok (.aload_n 0, 1) := by decide +kernel
theorem dX3_readDeed_96 : decode cX3_readDeed 96 = .ok (.getfield 37, 3) := by decide +kernel
theorem dX3_readDeed_99 : decode cX3_readDeed 99 = .ok (.getfield 115, 3) := by decide +kernel
theorem dX3_readDeed_102 : decode cX3_readDeed 102 = .ok (.iload_n 2, 1) := by decide +kernel
theorem dX3_readDeed_103 : decode cX3_readDeed 103 = .ok (.aload_n 0, 1) := by decide +kernel
theorem dX3_readDeed_104 : decode cX3_readDeed 104 = .ok (.iconst 0, 1) := by decide +kernel
theorem dX3_readDeed_105 : decode cX3_readDeed 105 = .ok (.iconst 1, 1) := by decide +kernel
theorem dX3_readDeed_106 : decode cX3_readDeed 106 = .ok (.invokevirtual 118, 3) := by decide +kernel
theorem dX3_readDeed_109 : decode cX3_readDeed 109 = .ok (.iastore, 1) := by decide +kernel
theorem dX3_readDeed_110 : decode cX3_readDeed 110 = .ok (.goto 19, 3) := by decide +kernel
theorem dX3_readDeed_113 : decode cX3_readDeed 113 = .ok (.aload_n 0, 1) := by decide +kernel
theorem dX3_readDeed_114 : decode cX3_readDeed 114 = .ok (.getfield 37, 3) := by decide +kernel
theorem dX3_readDeed_117 : decode cX3_readDeed 117 = .ok (.getfield 115, 3) := by decide +kernel
theorem dX3_readDeed_120 : decode cX3_readDeed 120 = .ok (.iload_n 2, 1) := by decide +kernel
theorem dX3_readDeed_121 : decode cX3_readDeed 121 = .ok (.aload_n 0, 1) := by decide +kernel
theorem dX3_readDeed_122 : decode cX3_readDeed 122 = .ok (.iconst 1, 1) := by decide +kernel
theorem dX3_readDeed_123 : decode cX3_readDeed 123 = .ok (.bipush 40, 2) := by decide +kernel
theorem dX3_readDeed_125 : decode cX3_readDeed 125 = .ok (.invokevirtual 118, 3) := by decide +kernel
theorem dX3_readDeed_128 : decode cX3_readDeed 128 = .ok (.iastore, 1) := by decide +kernel
theorem dX3_readDeed_129 : decode cX3_readDeed 129 = .ok (.aload_n 0, 1) := by decide +kernel
theorem dX3_readDeed_130 : decode cX3_readDeed 130 = .ok (.bipush 34, 2) := by decide +kernel
theorem dX3_readDeed_132 : decode cX3_readDeed 132 = .ok (.invokevirtual 121, 3) := by decide +kernel
theorem dX3_readDeed_135 : decode cX3_readDeed 135 = .ok (.return_, 1) := by decide +kernel
theorem dX3_expect_0 : decode cX3_expect 0 = .ok (.aload_n 0, 1) := by decide +kernel
theorem dX3_expect_1 : decode cX3_expect 1 = .ok (.getfield 31, 3) := by decide +kernel
theorem dX3_expect_4 : decode cX3_expect 4 = .ok (.ifCond .ne 23, 3) := by decide +kernel
theorem dX3_expect_7 : decode cX3_expect 7 = .ok (.aload_n 0, 1) := by decide +kernel
theorem dX3_expect_8 : decode cX3_expect 8 = .ok (.getfield 49, 3) := by decide +kernel
theorem dX3_expect_11 : decode cX3_expect 11 = .ok (.iload_n 1, 1) := by decide +kernel
theorem dX3_expect_12 : decode cX3_expect 12 = .ok (.if_icmp .eq 11, 3) := by decide +kernel
theorem dX3_expect_15 : decode cX3_expect 15 = .ok (.aload_n 0, 1) := by decide +kernel
theorem dX3_expect_16 : decode cX3_expect 16 = .ok (.iconst 1, 1) := by decide +kernel
theorem dX3_expect_17 : decode cX3_expect 17 = .ok (.invokevirtual 96, 3) := by decide +kernel
theorem dX3_expect_20 : decode cX3_expect 20 = .ok (.goto 7, 3) := by decide +kernel
theorem dX3_expect_23 : decode cX3_expect 23 = .ok (.aload_n 0, 1) := by decide +kernel
theorem dX3_expect_24 : decode cX3_expect 24 = .ok (.invokevirtual 46, 3) := by decide +kernel
theorem dX3_expect_27 : decode cX3_expect 27 = .ok (.return_, 1) := by decide +kernel
theorem dX3_readNumberOf_0 : decode cX3_readNumberOf 0 = .ok (.aload_n 0, 1) := by decide +kernel
theorem dX3_readNumberOf_1 : decode cX3_readNumberOf 1 = .ok (.getfield 31, 3) := by decide +kernel
theorem dX3_readNumberOf_4 : decode cX3_readNumberOf 4 = .ok (.ifCond .eq 5, 3) := by decide +kernel
theorem dX3_readNumberOf_7 : decode cX3_readNumberOf 7 = .ok (.iconst 0, 1) := by decide +kernel
theorem dX3_readNumberOf_8 : decode cX3_readNumberOf 8 = .ok (.ireturn, 1) := by decide +kernel
theorem dX3_readNumberOf_9 : decode cX3_readNumberOf 9 = .ok (.aload_n 0, 1) := by decide +kernel
theorem dX3_readNumberOf_10 : decode cX3_readNumberOf 10 = .ok (.getfield 87, 3) := by decide +kernel
theorem dX3_readNumberOf_13 : decode cX3_readNumberOf 13 = .ok (.istore_n 3, 1) := by decide +kernel
theorem dX3_readNumberOf_14 : decode cX3_readNumberOf 14 = .ok (.aload_n 0, 1) := by decide +kernel
theorem dX3_readNumberOf_15 : decode cX3_readNumberOf 15 = .ok (.getfield 49, 3) := by decide +kernel
theorem dX3_readNumberOf_18 : decode cX3_readNumberOf 18 = .ok (.bipush 37, 2) := by decide +kernel
theorem dX3_readNumberOf_20 : decode cX3_readNumberOf 20 = .ok (.if_icmp .eq 11, 3) := by decide +kernel
theorem dX3_readNumberOf_23 : decode cX3_readNumberOf 23 = .ok (.aload_n 0, 1) := by decide +kernel
theorem dX3_readNumberOf_24 : decode cX3_readNumberOf 24 = .ok (.iconst 1, 1) := by decide +kernel
theorem dX3_readNumberOf_25 : decode cX3_readNumberOf 25 = .ok (.invokevirtual 96, 3) := by decide +kernel
theorem dX3_readNumberOf_28 : decode cX3_readNumberOf 28 = .ok (.goto 25, 3) := by decide +kernel
theorem dX3_readNumberOf_31 : decode cX3_readNumberOf 31 = .ok (.iload_n 3, 1) := by decide +kernel
theorem dX3_readNumberOf_32 : decode cX3_readNumberOf 32 = .ok (.iload_n 1, 1) := by decide +kernel
theorem dX3_readNumberOf_33 : decode cX3_readNumberOf 33 = .ok (.if_icmp .lt 8, 3) := by decide +kernel
theorem dX3_readNumberOf_36 : decode cX3_readNumberOf 36 = .ok (.iload_n 3, 1) := by decide +kernel
theorem dX3_readNumberOf_37 : decode cX3_readNumberOf 37 = .ok (.iload_n 2, 1) := by decide +kernel
theorem dX3_readNumberOf_38 : decode cX3_readNumberOf 38 = .ok (.if_icmp .le 11, 3) := by decide +kernel
theorem dX3_readNumberOf_41 : decode cX3_readNumberOf 41 = .ok (.aload_n 0, 1) := by decide +kernel
theorem dX3_readNumberOf_42 : decode cX3_readNumberOf 42 = .ok (.iconst 2, 1) := by decide +kernel
theorem dX3_readNumberOf_43 : decode cX3_readNumberOf 43 = .ok (.invokevirtual 96, 3) := by decide +kernel
theorem dX3_readNumberOf_46 : decode cX3_readNumberOf 46 = .ok (.goto 7, 3) := by decide +kernel
theorem dX3_readNumberOf_49 : decode cX3_readNumberOf 49 = .ok (.aload_n 0, 1) := by decide +kernel
theorem dX3_readNumberOf_50 : decode cX3_readNumberOf 50 = .ok (.invokevirtual 46, 3) := by decide +kernel
theorem dX3_readNumberOf_53 : decode cX3_readNumberOf 53 = .ok (.iload_n 3, 1) := by decide +kernel
theorem dX3_readNumberOf_54 : decode cX3_readNumberOf 54 = .ok (.ireturn, 1) := by decide +kernel
theorem dX3_readLaw_0 : decode cX3_readLaw 0 = .ok (.aload_n 0, 1) := by decide +kernel
theorem dX3_readLaw_1 : decode cX3_readLaw 1 = .ok (.getfield 37, 3) := by decide +kernel
theorem dX3_readLaw_4 : decode cX3_readLaw 4 = .ok (.getfield 127, 3) := by decide +kernel
theorem dX3_readLaw_7 : decode cX3_readLaw 7 = .ok (.iload_n 1, 1) := by decide +kernel
theorem dX3_readLaw_8 : decode cX3_readLaw 8 = .ok (.aload_n 0, 1) := by decide +kernel
theorem dX3_readLaw_9 : decode cX3_readLaw 9 = .ok (.getfield 37, 3) := by decide +kernel
theorem dX3_readLaw_12 : decode cX3_readLaw 12 = .ok (.getfield 130, 3) := by decide +kernel
theorem dX3_readLaw_15 : decode cX3_readLaw 15 = .ok (.iastore, 1) := by decide +kernel
theorem dX3_readLaw_16 : decode cX3_readLaw 16 = .ok (.aload_n 0, 1) := by decide +kernel
theorem dX3_readLaw_17 : decode cX3_readLaw 17 = .ok (.iconst 0, 1) := by decide +kernel
theorem dX3_readLaw_18 : decode cX3_readLaw 18 = .ok (.putfield 132, 3) := by decide +kernel
theorem dX3_readLaw_21 : decode cX3_readLaw 21 = .ok (.aload_n 0, 1) := by decide +kernel
theorem dX3_readLaw_22 : decode cX3_readLaw 22 = .ok (.iconst 0, 1) := by decide +kernel
theorem dX3_readLaw_23 : decode cX3_readLaw 23 = .ok (.putfield 135, 3) := by decide +kernel
theorem dX3_readLaw_26 : decode cX3_readLaw 26 = .ok (.aload_n 0, 1) := by decide +kernel
theorem dX3_readLaw_27 : decode cX3_readLaw 27 = .ok (.iconst 0, 1) := by decide +kernel
theorem dX3_readLaw_28 : decode cX3_readLaw 28 = .ok (.putfield 138, 3) := by decide +kernel
theorem dX3_readLaw_31 : decode cX3_readLaw 31 = .ok (.aload_n 0, 1) := by decide +kernel
theorem dX3_readLaw_32 : decode cX3_readLaw 32 = .ok (.iconst 1, 1) := by decide +kernel
theorem dX3_readLaw_33 : decode cX3_readLaw 33 = .ok (.putfield 141, 3) := by decide +kernel
theorem dX3_readLaw_36 : decode cX3_readLaw 36 = .ok (.aload_n 0, 1) := by decide +kernel
theorem dX3_readLaw_37 : decode cX3_readLaw 37 = .ok (.iconst 0, 1) := by decide +kernel
theorem dX3_readLaw_38 : decode cX3_readLaw 38 = .ok (.putfield 145, 3) := by decide +kernel
theorem dX3_readLaw_41 : decode cX3_readLaw 41 = .ok (.iconst 0, 1) := by decide +kernel
theorem dX3_readLaw_42 : decode cX3_readLaw 42 = .ok (.istore_n 2, 1) := by decide +kernel
theorem dX3_readLaw_43 : decode cX3_readLaw 43 = .ok (.iconst 0, 1) := by decide +kernel
theorem dX3_readLaw_44 : decode cX3_readLaw 44 = .ok (.istore_n 3, 1) := by decide +kernel
theorem dX3_readLaw_45 : decode cX3_readLaw 45 = .ok (.iload_n 3, 1) := by decide +kernel
theorem dX3_readLaw_46 : decode cX3_readLaw 46 = .ok (.sipush 300, 3) := by decide +kernel
theorem dX3_readLaw_49 : decode cX3_readLaw 49 = .ok (.if_icmp .gt 89, 3) := by decide +kernel
theorem dX3_readLaw_52 : decode cX3_readLaw 52 = .ok (.aload_n 0, 1) := by decide +kernel
theorem dX3_readLaw_53 : decode cX3_readLaw 53 = .ok (.getfield 31, 3) := by decide +kernel
theorem dX3_readLaw_56 : decode cX3_readLaw 56 = .ok (.ifCond .ne 82, 3) := by decide +kernel
theorem dX3_readLaw_59 : decode cX3_readLaw 59 = .ok (.iload_n 2, 1) := by decide +kernel
theorem dX3_readLaw_60 : decode cX3_readLaw 60 = .ok (.ifCond .ne 78, 3) := by decide +kernel
theorem dX3_readLaw_63 : decode cX3_readLaw 63 = .ok (.aload_n 0, 1) := by decide +kernel
theorem dX3_readLaw_64 : decode cX3_readLaw 64 = .ok (.getfield 141, 3) := by decide +kernel
theorem dX3_readLaw_67 : decode cX3_readLaw 67 = .ok (.ifCond .eq 11, 3) := by decide +kernel
theorem dX3_readLaw_70 : decode cX3_readLaw 70 = .ok (.aload_n 0, 1) := by decide +kernel
theorem dX3_readLaw_71 : decode cX3_readLaw 71 = .ok (.iload_n 1, 1) := by decide +kernel
theorem dX3_readLaw_72 : decode cX3_readLaw 72 = .ok (.invokevirtual 148, 3) := by decide +kernel
theorem dX3_readLaw_75 : decode cX3_readLaw 75 = .ok (.goto 46, 3) := by decide +kernel
theorem dX3_readLaw_78 : decode cX3_readLaw 78 = .ok (.aload_n 0, 1) := by decide +kernel
theorem dX3_readLaw_79 : decode cX3_readLaw 79 = .ok (.getfield 49, 3) := by decide +kernel
theorem dX3_readLaw_82 : decode cX3_readLaw 82 = .ok (.bipush 34, 2) := by decide +kernel
theorem dX3_readLaw_84 : decode cX3_readLaw 84 = .ok (.if_icmp .ne 32, 3) := by decide +kernel
theorem dX3_readLaw_87 : decode cX3_readLaw 87 = .ok (.aload_n 0, 1) := by decide +kernel
theorem dX3_readLaw_88 : decode cX3_readLaw 88 = .ok (.getfield 138, 3) := by decide +kernel
theorem dX3_readLaw_91 : decode cX3_readLaw 91 = .ok (.ifCond .ne 25, 3) := by decide +kernel
theorem dX3_readLaw_94 : decode cX3_readLaw 94 = .ok (.aload_n 0, 1) := by decide +kernel
theorem dX3_readLaw_95 : decode cX3_readLaw 95 = .ok (.getfield 145, 3) := by decide +kernel
theorem dX3_readLaw_98 : decode cX3_readLaw 98 = .ok (.iload_n 1, 1) := by decide +kernel
theorem dX3_readLaw_99 : decode cX3_readLaw 99 = .ok (.iconst 2, 1) := by decide +kernel
theorem dX3_readLaw_100 : decode cX3_readLaw 100 = .ok (.if_icmp .ne 7, 3) := by decide +kernel
theorem dX3_readLaw_103 : decode cX3_readLaw 103 = .ok (.iconst 1, 1) := by decide +kernel
theorem dX3_readLaw_104 : decode cX3_readLaw 104 = .ok (.goto 4, 3) := by decide +kernel
theorem dX3_readLaw_107 : decode cX3_readLaw 107 = .ok (.iconst 0, 1) := by decide +kernel
theorem dX3_readLaw_108 : decode cX3_readLaw 108 = .ok (.if_icmp .ne 8, 3) := by decide +kernel
theorem dX3_readLaw_111 : decode cX3_readLaw 111 = .ok (.iconst 1, 1) := by decide +kernel
theorem dX3_readLaw_112 : decode cX3_readLaw 112 = .ok (.istore_n 2, 1) := by decide +kernel
theorem dX3_readLaw_113 : decode cX3_readLaw 113 = .ok (.goto 8, 3) := by decide +kernel
theorem dX3_readLaw_116 : decode cX3_readLaw 116 = .ok (.aload_n 0, 1) := by decide +kernel
theorem dX3_readLaw_117 : decode cX3_readLaw 117 = .ok (.iload_n 1, 1) := by decide +kernel
theorem dX3_readLaw_118 : decode cX3_readLaw 118 = .ok (.invokevirtual 151, 3) := by decide +kernel
theorem dX3_readLaw_121 : decode cX3_readLaw 121 = .ok (.aload_n 0, 1) := by decide +kernel
theorem dX3_readLaw_122 : decode cX3_readLaw 122 = .ok (.getfield 31, 3) := by decide +kernel
theorem dX3_readLaw_125 : decode cX3_readLaw 125 = .ok (.ifCond .ne 7, 3) := by decide +kernel
theorem dX3_readLaw_128 : decode cX3_readLaw 128 = .ok (.aload_n 0, 1) := by decide +kernel
theorem dX3_readLaw_129 : decode cX3_readLaw 129 = .ok (.invokevirtual 46, 3) := by decide +kernel
theorem dX3_readLaw_132 : decode cX3_readLaw 132 = .ok (.iinc 3 1, 3) := by decide +kernel
theorem dX3_readLaw_135 : decode cX3_readLaw 135 = .ok (.goto (-90), 3) := by decide +kernel
theorem dX3_readLaw_138 : decode cX3_readLaw 138 = .ok (.aload_n 0, 1) := by decide +kernel
theorem dX3_readLaw_139 : decode cX3_readLaw 139 = .ok (.bipush 9, 2) := by decide +kernel
theorem dX3_readLaw_141 : decode cX3_readLaw 141 = .ok (.invokestatic 154, 3) := by decide +kernel
theorem dX3_readLaw_144 : decode cX3_readLaw 144 = .ok (.invokevirtual 157, 3) := by decide +kernel
theorem dX3_readLaw_147 : decode cX3_readLaw 147 = .ok (.aload_n 0, 1) := by decide +kernel
theorem dX3_readLaw_148 : decode cX3_readLaw 148 = .ok (.getfield 37, 3) := by decide +kernel
theorem dX3_readLaw_151 : decode cX3_readLaw 151 = .ok (.getfield 160, 3) := by decide +kernel
theorem dX3_readLaw_154 : decode cX3_readLaw 154 = .ok (.iload_n 1, 1) := by decide +kernel
theorem dX3_readLaw_155 : decode cX3_readLaw 155 = .ok (.aload_n 0, 1) := by decide +kernel
theorem dX3_readLaw_156 : decode cX3_readLaw 156 = .ok (.getfield 37, 3) := by decide +kernel
theorem dX3_readLaw_159 : decode cX3_readLaw 159 = .ok (.getfield 130, 3) := by decide +kernel
theorem dX3_readLaw_162 : decode cX3_readLaw 162 = .ok (.iastore, 1) := by decide +kernel
theorem dX3_readLaw_163 : decode cX3_readLaw 163 = .ok (.return_, 1) := by decide +kernel
theorem dX3_readOne_0 : decode cX3_readOne 0 = .ok (.aload_n 0, 1) := by decide +kernel
theorem dX3_readOne_1 : decode cX3_readOne 1 = .ok (.getfield 49, 3) := by decide +kernel
theorem dX3_readOne_4 : decode cX3_readOne 4 = .ok (.bipush 37, 2) := by decide +kernel
theorem dX3_readOne_6 : decode cX3_readOne 6 = .ok (.if_icmp .ne 37, 3) := by decide +kernel
theorem dX3_readOne_9 : decode cX3_readOne 9 = .ok (.aload_n 0, 1) := by decide +kernel
theorem dX3_readOne_10 : decode cX3_readOne 10 = .ok (.getfield 87, 3) := by decide +kernel
theorem dX3_readOne_13 : decode cX3_readOne 13 = .ok (.sipush 9999, 3) := by decide +kernel
theorem dX3_readOne_16 : decode cX3_readOne 16 = .ok (.if_icmp .le 8, 3) := by decide +kernel
theorem dX3_readOne_19 : decode cX3_readOne 19 = .ok (.aload_n 0, 1) := by decide +kernel
theorem dX3_readOne_20 : decode cX3_readOne 20 = .ok (.iconst 2, 1) := by decide +kernel
theorem dX3_readOne_21 : decode cX3_readOne 21 = .ok (.invokevirtual 96, 3) := by decide +kernel
theorem dX3_readOne_24 : decode cX3_readOne 24 = .ok (.aload_n 0, 1) := by decide +kernel
theorem dX3_readOne_25 : decode cX3_readOne 25 = .ok (.getfield 37, 3) := by decide +kernel
theorem dX3_readOne_28 : decode cX3_readOne 28 = .ok (.aload_n 0, 1) := by decide +kernel
theorem dX3_readOne_29 : decode cX3_readOne 29 = .ok (.getfield 87, 3) := by decide +kernel
theorem dX3_readOne_32 : decode cX3_readOne 32 = .ok (.invokevirtual 163, 3) := by decide +kernel
theorem dX3_readOne_35 : decode cX3_readOne 35 = .ok (.aload_n 0, 1) := by decide +kernel
theorem dX3_readOne_36 : decode cX3_readOne 36 = .ok (.iconst 0, 1) := by decide +kernel
theorem dX3_readOne_37 : decode cX3_readOne 37 = .ok (.putfield 141, 3) := by decide +kernel
theorem dX3_readOne_40 : decode cX3_readOne 40 = .ok (.goto 148, 3) := by decide +kernel
theorem dX3_readOne_43 : decode cX3_readOne 43 = .ok (.aload_n 0, 1) := by decide +kernel
theorem dX3_readOne_44 : decode cX3_readOne 44 = .ok (.getfield 49, 3) := by decide +kernel
theorem dX3_readOne_47 : decode cX3_readOne 47 = .ok (.bipush 12, 2) := by decide +kernel
theorem dX3_readOne_49 : decode cX3_readOne 49 = .ok (.if_icmp .lt 58, 3) := by decide +kernel
theorem dX3_readOne_52 : decode cX3_readOne 52 = .ok (.aload_n 0, 1) := by decide +kernel
theorem dX3_readOne_53 : decode cX3_readOne 53 = .ok (.getfield 49, 3) := by decide +kernel
theorem dX3_readOne_56 : decode cX3_readOne 56 = .ok (.bipush 24, 2) := by decide +kernel
theorem dX3_readOne_58 : decode cX3_readOne 58 = .ok (.if_icmp .ge 49, 3) := by decide +kernel
theorem dX3_readOne_61 : decode cX3_readOne 61 = .ok (.getstatic 166, 3) := by decide +kernel
theorem dX3_readOne_64 : decode cX3_readOne 64 = .ok (.iload_n 1, 1) := by decide +kernel
theorem dX3_readOne_65 : decode cX3_readOne 65 = .ok (.iaload, 1) := by decide +kernel
theorem dX3_readOne_66 : decode cX3_readOne 66 = .ok (.aload_n 0, 1) := by decide +kernel
theorem dX3_readOne_67 : decode cX3_readOne 67 = .ok (.getfield 49, 3) := by decide +kernel
theorem dX3_readOne_70 : decode cX3_readOne 70 = .ok (.bipush 12, 2) := by decide +kernel
theorem dX3_readOne_72 : decode cX3_readOne 72 = .ok (.isub, 1) := by decide +kernel
theorem dX3_readOne_73 : decode cX3_readOne 73 = .ok (.ishr, 1) := by decide +kernel
theorem dX3_readOne_74 : decode cX3_readOne 74 = .ok (.iconst 1, 1) := by decide +kernel
theorem dX3_readOne_75 : decode cX3_readOne 75 = .ok (.iand, 1) := by decide +kernel
theorem dX3_readOne_76 : decode cX3_readOne 76 = .ok (.ifCond .ne 8, 3) := by decide +kernel
theorem dX3_readOne_79 : decode cX3_readOne 79 = .ok (.aload_n 0, 1) := by decide +kernel
theorem dX3_readOne_80 : decode cX3_readOne 80 = .ok (.iconst 5, 1) := by decide +kernel
theorem dX3_readOne_81 : decode cX3_readOne 81 = .ok (.invokevirtual 96, 3) := by decide +kernel
theorem dX3_readOne_84 : decode cX3_readOne 84 = .ok (.aload_n 0, 1) := by decide +kernel
theorem dX3_readOne_85 : decode cX3_readOne 85 = .ok (.getfield 37, 3) := by decide +kernel
theorem dX3_readOne_88 : decode cX3_readOne 88 = .ok (.sipush 10000, 3) := by decide +kernel
theorem dX3_readOne_91 : decode cX3_readOne 91 = .ok (.aload_n 0, 1) := by decide +kernel
theorem dX3_readOne_92 : decode cX3_readOne 92 = .ok (.getfield 49, 3) := by decide +kernel
theorem dX3_readOne_95 : decode cX3_readOne 95 = .ok (.iadd, 1) := by decide +kernel
theorem dX3_readOne_96 : decode cX3_readOne 96 = .ok (.invokevirtual 163, 3) := by decide +kernel
theorem dX3_readOne_99 : decode cX3_readOne 99 = .ok (.aload_n 0, 1) := by decide +kernel
theorem dX3_readOne_100 : decode cX3_readOne 100 = .ok (.iconst 0, 1) := by decide +kernel
theorem dX3_readOne_101 : decode cX3_readOne 101 = .ok (.putfield 141, 3) := by decide +kernel
theorem dX3_readOne_104 : decode cX3_readOne 104 = .ok (.goto 84, 3) := by decide +kernel
theorem dX3_readOne_107 : decode cX3_readOne 107 = .ok (.aload_n 0, 1) := by decide +kernel
theorem dX3_readOne_108 : decode cX3_readOne 108 = .ok (.getfield 49, 3) := by decide +kernel
theorem dX3_readOne_111 : decode cX3_readOne 111 = .ok (.bipush 32, 2) := by decide +kernel
theorem dX3_readOne_113 : decode cX3_readOne 113 = .ok (.if_icmp .ne 22, 3) := by decide +kernel
theorem dX3_readOne_116 : decode cX3_readOne 116 = .ok (.aload_n 0, 1) := by decide +kernel
theorem dX3_readOne_117 : decode cX3_readOne 117 = .ok (.dup, 1) := by decide +kernel
theorem dX3_readOne_118 : decode cX3_readOne 118 = .ok (.getfield 138, 3) := by decide +kernel
theorem dX3_readOne_121 : decode cX3_readOne 121 = .ok (.iconst 1, 1) := by decide +kernel
theorem dX3_readOne_122 : decode cX3_readOne 122 = .ok (.iadd, 1) := by decide +kernel
theorem dX3_readOne_123 : decode cX3_readOne 123 = .ok (.putfield 138, 3) := by decide +kernel
theorem dX3_readOne_126 : decode cX3_readOne 126 = .ok (.aload_n 0, 1) := by decide +kernel
theorem dX3_readOne_127 : decode cX3_readOne 127 = .ok (.bipush 32, 2) := by decide +kernel
theorem dX3_readOne_129 : decode cX3_readOne 129 = .ok (.invokevirtual 169, 3) := by decide +kernel
theorem dX3_readOne_132 : decode cX3_readOne 132 = .ok (.goto 56, 3) := by decide +kernel
theorem dX3_readOne_135 : decode cX3_readOne 135 = .ok (.aload_n 0, 1) := by decide +kernel
theorem dX3_readOne_136 : decode cX3_readOne 136 = .ok (.getfield 49, 3) := by decide +kernel
theorem dX3_readOne_139 : decode cX3_readOne 139 = .ok (.bipush 29, 2) := by decide +kernel
theorem dX3_readOne_141 : decode cX3_readOne 141 = .ok (.if_icmp .ne 12, 3) := by decide +kernel
theorem dX3_readOne_144 : decode cX3_readOne 144 = .ok (.aload_n 0, 1) := by decide +kernel
theorem dX3_readOne_145 : decode cX3_readOne 145 = .ok (.bipush 40, 2) := by decide +kernel
theorem dX3_readOne_147 : decode cX3_readOne 147 = .ok (.invokevirtual 169, 3) := by decide +kernel
theorem dX3_readOne_150 : decode cX3_readOne 150 = .ok (.goto 38, 3) := by decide +kernel
theorem dX3_readOne_153 : decode cX3_readOne 153 = .ok (.aload_n 0, 1) := by decide +kernel
theorem dX3_readOne_154 : decode cX3_readOne 154 = .ok (.getfield 49, 3) := by decide +kernel
theorem dX3_readOne_157 : decode cX3_readOne 157 = .ok (.bipush 11, 2) := by decide +kernel
theorem dX3_readOne_159 : decode cX3_readOne 159 = .ok (.if_icmp .ne 24, 3) := by decide +kernel
theorem dX3_readOne_162 : decode cX3_readOne 162 = .ok (.iload_n 1, 1) := by decide +kernel
theorem dX3_readOne_163 : decode cX3_readOne 163 = .ok (.iconst 2, 1) := by decide +kernel
theorem dX3_readOne_164 : decode cX3_readOne 164 = .ok (.if_icmp .ne 19, 3) := by decide +kernel
theorem dX3_readOne_167 : decode cX3_readOne 167 = .ok (.aload_n 0, 1) := by decide +kernel
theorem dX3_readOne_168 : decode cX3_readOne 168 = .ok (.invokevirtual 172, 3) := by decide +kernel
theorem dX3_readOne_171 : decode cX3_readOne 171 = .ok (.ifCond .eq 12, 3) := by decide +kernel
theorem dX3_readOne_174 : decode cX3_readOne 174 = .ok (.aload_n 0, 1) := by decide +kernel
theorem dX3_readOne_175 : decode cX3_readOne 175 = .ok (.bipush 11, 2) := by decide +kernel
theorem dX3_readOne_177 : decode cX3_readOne 177 = .ok (.invokevirtual 169, 3) := by decide +kernel
theorem dX3_readOne_180 : decode cX3_readOne 180 = .ok (.goto 8, 3) := by decide +kernel
theorem dX3_readOne_183 : decode cX3_readOne 183 = .ok (.aload_n 0, 1) := by decide +kernel
theorem dX3_readOne_184 : decode cX3_readOne 184 = .ok (.iconst 1, 1) := by decide +kernel
theorem dX3_readOne_185 : decode cX3_readOne 185 = .ok (.invokevirtual 96, 3) := by decide +kernel
theorem dX3_readOne_188 : decode cX3_readOne 188 = .ok (.return_, 1) := by decide +kernel
theorem dX3_readBetween_0 : decode cX3_readBetween 0 = .ok (.aload_n 0, 1) := by decide +kernel
theorem dX3_readBetween_1 : decode cX3_readBetween 1 = .ok (.getfield 138, 3) := by decide +kernel
theorem dX3_readBetween_4 : decode cX3_readBetween 4 = .ok (.ifCond .ne 7, 3) := by decide +kernel
theorem dX3_readBetween_7 : decode cX3_readBetween 7 = .ok (.iconst 1, 1) := by decide +kernel
theorem dX3_readBetween_8 : decode cX3_readBetween 8 = .ok (.goto 4, 3) := by decide +kernel
theorem dX3_readBetween_11 : decode cX3_readBetween 11 = .ok (.iconst 0, 1) := by decide +kernel
theorem dX3_readBetween_12 : decode cX3_readBetween 12 = .ok (.istore_n 2, 1) := by decide +kernel
theorem dX3_readBetween_13 : decode cX3_readBetween 13 = .ok (.aload_n 0, 1) := by decide +kernel
theorem dX3_readBetween_14 : decode cX3_readBetween 14 = .ok (.getfield 49, 3) := by decide +kernel
theorem dX3_readBetween_17 : decode cX3_readBetween 17 = .ok (.bipush 28, 2) := by decide +kernel
theorem dX3_readBetween_19 : decode cX3_readBetween 19 = .ok (.if_icmp .lt 19, 3) := by decide +kernel
theorem dX3_readBetween_22 : decode cX3_readBetween 22 = .ok (.aload_n 0, 1) := by decide +kernel
theorem dX3_readBetween_23 : decode cX3_readBetween 23 = .ok (.getfield 49, 3) := by decide +kernel
theorem dX3_readBetween_26 : decode cX3_readBetween 26 = .ok (.bipush 31, 2) := by decide +kernel
theorem dX3_readBetween_28 : decode cX3_readBetween 28 = .ok (.if_icmp .gt 10, 3) := by decide +kernel
theorem dX3_readBetween_31 : decode cX3_readBetween 31 = .ok (.aload_n 0, 1) := by decide +kernel
theorem dX3_readBetween_32 : decode cX3_readBetween 32 = .ok (.invokevirtual 176, 3) := by decide +kernel
theorem dX3_readBetween_35 : decode cX3_readBetween 35 = .ok (.goto 126, 3) := by decide +kernel
theorem dX3_readBetween_38 : decode cX3_readBetween 38 = .ok (.aload_n 0, 1) := by decide +kernel
theorem dX3_readBetween_39 : decode cX3_readBetween 39 = .ok (.getfield 49, 3) := by decide +kernel
theorem dX3_readBetween_42 : decode cX3_readBetween 42 = .ok (.invokestatic 179, 3) := by decide +kernel
theorem dX3_readBetween_45 : decode cX3_readBetween 45 = .ok (.ifCond .eq 31, 3) := by decide +kernel
theorem dX3_readBetween_48 : decode cX3_readBetween 48 = .ok (.iload_n 1, 1) := by decide +kernel
theorem dX3_readBetween_49 : decode cX3_readBetween 49 = .ok (.iconst 2, 1) := by decide +kernel
theorem dX3_readBetween_50 : decode cX3_readBetween 50 = .ok (.if_icmp .ne 26, 3) := by decide +kernel
theorem dX3_readBetween_53 : decode cX3_readBetween 53 = .ok (.iload_n 2, 1) := by decide +kernel
theorem dX3_readBetween_54 : decode cX3_readBetween 54 = .ok (.ifCond .eq 22, 3) := by decide +kernel
theorem dX3_readBetween_57 : decode cX3_readBetween 57 = .ok (.aload_n 0, 1) := by decide +kernel
theorem dX3_readBetween_58 : decode cX3_readBetween 58 = .ok (.getfield 145, 3) := by decide +kernel
theorem dX3_readBetween_61 : decode cX3_readBetween 61 = .ok (.ifCond .ne 15, 3) := by decide +kernel
theorem dX3_readBetween_64 : decode cX3_readBetween 64 = .ok (.aload_n 0, 1) := by decide +kernel
theorem dX3_readBetween_65 : decode cX3_readBetween 65 = .ok (.invokevirtual 176, 3) := by decide +kernel
theorem dX3_readBetween_68 : decode cX3_readBetween 68 = .ok (.aload_n 0, 1) := by decide +kernel
theorem dX3_readBetween_69 : decode cX3_readBetween 69 = .ok (.iconst 1, 1) := by decide +kernel
theorem dX3_readBetween_70 : decode cX3_readBetween 70 = .ok (.putfield 145, 3) := by decide +kernel
theorem dX3_readBetween_73 : decode cX3_readBetween 73 = .ok (.goto 88, 3) := by decide +kernel
theorem dX3_readBetween_76 : decode cX3_readBetween 76 = .ok (.aload_n 0, 1) := by decide +kernel
theorem dX3_readBetween_77 : decode cX3_readBetween 77 = .ok (.getfield 49, 3) := by decide +kernel
theorem dX3_readBetween_80 : decode cX3_readBetween 80 = .ok (.bipush 10, 2) := by decide +kernel
theorem dX3_readBetween_82 : decode cX3_readBetween 82 = .ok (.if_icmp .eq 12, 3) := by decide +kernel
theorem dX3_readBetween_85 : decode cX3_readBetween 85 = .ok (.aload_n 0, 1) := by decide +kernel
theorem dX3_readBetween_86 : decode cX3_readBetween 86 = .ok (.getfield 49, 3) := by decide +kernel
theorem dX3_readBetween_89 : decode cX3_readBetween 89 = .ok (.bipush 9, 2) := by decide +kernel
theorem dX3_readBetween_91 : decode cX3_readBetween 91 = .ok (.if_icmp .ne 26, 3) := by decide +kernel
theorem dX3_readBetween_94 : decode cX3_readBetween 94 = .ok (.iload_n 2, 1) := by decide +kernel
theorem dX3_readBetween_95 : decode cX3_readBetween 95 = .ok (.ifCond .eq 22, 3) := by decide +kernel
theorem dX3_readBetween_98 : decode cX3_readBetween 98 = .ok (.aload_n 0, 1) := by decide +kernel
theorem dX3_readBetween_99 : decode cX3_readBetween 99 = .ok (.getfield 145, 3) := by decide +kernel
theorem dX3_readBetween_102 : decode cX3_readBetween 102 = .ok (.ifCond .eq 15, 3) := by decide +kernel
theorem dX3_readBetween_105 : decode cX3_readBetween 105 = .ok (.aload_n 0, 1) := by decide +kernel
theorem dX3_readBetween_106 : decode cX3_readBetween 106 = .ok (.invokevirtual 176, 3) := by decide +kernel
theorem dX3_readBetween_109 : decode cX3_readBetween 109 = .ok (.aload_n 0, 1) := by decide +kernel
theorem dX3_readBetween_110 : decode cX3_readBetween 110 = .ok (.iconst 0, 1) := by decide +kernel
theorem dX3_readBetween_111 : decode cX3_readBetween 111 = .ok (.putfield 145, 3) := by decide +kernel
theorem dX3_readBetween_114 : decode cX3_readBetween 114 = .ok (.goto 47, 3) := by decide +kernel
theorem dX3_readBetween_117 : decode cX3_readBetween 117 = .ok (.aload_n 0, 1) := by decide +kernel
theorem dX3_readBetween_118 : decode cX3_readBetween 118 = .ok (.getfield 49, 3) := by decide +kernel
theorem dX3_readBetween_121 : decode cX3_readBetween 121 = .ok (.bipush 33, 2) := by decide +kernel
theorem dX3_readBetween_123 : decode cX3_readBetween 123 = .ok (.if_icmp .ne 33, 3) := by decide +kernel
theorem dX3_readBetween_126 : decode cX3_readBetween 126 = .ok (.iload_n 2, 1) := by decide +kernel
theorem dX3_readBetween_127 : decode cX3_readBetween 127 = .ok (.ifCond .ne 29, 3) := by decide +kernel
theorem dX3_readBetween_130 : decode cX3_readBetween 130 = .ok (.aload_n 0, 1) := by decide +kernel
theorem dX3_readBetween_131 : decode cX3_readBetween 131 = .ok (.bipush 9, 2) := by decide +kernel
theorem dX3_readBetween_133 : decode cX3_readBetween 133 = .ok (.invokestatic 154, 3) := by decide +kernel
theorem dX3_readBetween_136 : decode cX3_readBetween 136 = .ok (.invokevirtual 157, 3) := by decide +kernel
theorem dX3_readBetween_139 : decode cX3_readBetween 139 = .ok (.aload_n 0, 1) := by decide +kernel
theorem dX3_readBetween_140 : decode cX3_readBetween 140 = .ok (.invokevirtual 182, 3) := by decide +kernel
theorem dX3_readBetween_143 : decode cX3_readBetween 143 = .ok (.aload_n 0, 1) := by decide +kernel
theorem dX3_readBetween_144 : decode cX3_readBetween 144 = .ok (.dup, 1) := by decide +kernel
theorem dX3_readBetween_145 : decode cX3_readBetween 145 = .ok (.getfield 138, 3) := by decide +kernel
theorem dX3_readBetween_148 : decode cX3_readBetween 148 = .ok (.iconst 1, 1) := by decide +kernel
theorem dX3_readBetween_149 : decode cX3_readBetween 149 = .ok (.isub, 1) := by decide +kernel
theorem dX3_readBetween_150 : decode cX3_readBetween 150 = .ok (.putfield 138, 3) := by decide +kernel
theorem dX3_readBetween_153 : decode cX3_readBetween 153 = .ok (.goto 8, 3) := by decide +kernel
theorem dX3_readBetween_156 : decode cX3_readBetween 156 = .ok (.aload_n 0, 1) := by decide +kernel
theorem dX3_readBetween_157 : decode cX3_readBetween 157 = .ok (.iconst 1, 1) := by decide +kernel
theorem dX3_readBetween_158 : decode cX3_readBetween 158 = .ok (.invokevirtual 96, 3) := by decide +kernel
theorem dX3_readBetween_161 : decode cX3_readBetween 161 = .ok (.return_, 1) := by decide +kernel
theorem dX3_isComparison_0 : decode cX3_isComparison 0 = .ok (.iload_n 0, 1) := by decide +kernel
theorem dX3_isComparison_1 : decode cX3_isComparison 1 = .ok (.bipush 24, 2) := by decide +kernel
theorem dX3_isComparison_3 : decode cX3_isComparison 3 = .ok (.if_icmp .lt 9, 3) := by decide +kernel
theorem dX3_isComparison_6 : decode cX3_isComparison 6 = .ok (.iload_n 0, 1) := by decide +kernel
theorem dX3_isComparison_7 : decode cX3_isComparison 7 = .ok (.bipush 27, 2) := by decide +kernel
theorem dX3_isComparison_9 : decode cX3_isComparison 9 = .ok (.if_icmp .le 15, 3) := by decide +kernel
theorem dX3_isComparison_12 : decode cX3_isComparison 12 = .ok (.iload_n 0, 1) := by decide +kernel
theorem dX3_isComparison_13 : decode cX3_isComparison 13 = .ok (.bipush 35, 2) := by decide +kernel
theorem dX3_isComparison_15 : decode cX3_isComparison 15 = .ok (.if_icmp .eq 9, 3) := by decide +kernel
theorem dX3_isComparison_18 : decode cX3_isComparison 18 = .ok (.iload_n 0, 1) := by decide +kernel
theorem dX3_isComparison_19 : decode cX3_isComparison 19 = .ok (.bipush 36, 2) := by decide +kernel
theorem dX3_isComparison_21 : decode cX3_isComparison 21 = .ok (.if_icmp .ne 7, 3) := by decide +kernel
theorem dX3_isComparison_24 : decode cX3_isComparison 24 = .ok (.iconst 1, 1) := by decide +kernel
theorem dX3_isComparison_25 : decode cX3_isComparison 25 = .ok (.goto 4, 3) := by decide +kernel
theorem dX3_isComparison_28 : decode cX3_isComparison 28 = .ok (.iconst 0, 1) := by decide +kernel
theorem dX3_isComparison_29 : decode cX3_isComparison 29 = .ok (.ireturn, 1) := by decide +kernel
theorem dX3_isAheadOfAsk_0 : decode cX3_isAheadOfAsk 0 = .ok (.aload_n 0, 1) := by decide +kernel
theorem dX3_isAheadOfAsk_1 : decode cX3_isAheadOfAsk 1 = .ok (.getfield 132, 3) := by decide +kernel
theorem dX3_isAheadOfAsk_4 : decode cX3_isAheadOfAsk 4 = .ok (.ifCond .le 29, 3) := by decide +kernel
theorem dX3_isAheadOfAsk_7 : decode cX3_isAheadOfAsk 7 = .ok (.aload_n 0, 1) := by decide +kernel
theorem dX3_isAheadOfAsk_8 : decode cX3_isAheadOfAsk 8 = .ok (.getfield 132, 3) := by decide +kernel
theorem dX3_isAheadOfAsk_11 : decode cX3_isAheadOfAsk 11 = .ok (.aload_n 0, 1) := by decide +kernel
theorem dX3_isAheadOfAsk_12 : decode cX3_isAheadOfAsk 12 = .ok (.getfield 15, 3) := by decide +kernel
theorem dX3_isAheadOfAsk_15 : decode cX3_isAheadOfAsk 15 = .ok (.arraylength, 1) := by decide +kernel
theorem dX3_isAheadOfAsk_16 : decode cX3_isAheadOfAsk 16 = .ok (.if_icmp .gt 17, 3) := by decide +kernel
theorem dX3_isAheadOfAsk_19 : decode cX3_isAheadOfAsk 19 = .ok (.aload_n 0, 1) := by decide +kernel
theorem dX3_isAheadOfAsk_20 : decode cX3_isAheadOfAsk 20 = .ok (.getfield 15, 3) := by decide +kernel
theorem dX3_isAheadOfAsk_23 : decode cX3_isAheadOfAsk 23 = .ok (.aload_n 0, 1) := by decide +kernel
theorem dX3_isAheadOfAsk_24 : decode cX3_isAheadOfAsk 24 = .ok (.getfield 132, 3) := by decide +kernel
theorem dX3_isAheadOfAsk_27 : decode cX3_isAheadOfAsk 27 = .ok (.iconst 1, 1) := by decide +kernel
theorem dX3_isAheadOfAsk_28 : decode cX3_isAheadOfAsk 28 = .ok (.isub, 1) := by decide +kernel
theorem dX3_isAheadOfAsk_29 : decode cX3_isAheadOfAsk 29 = .ok (.iaload, 1) := by decide +kernel
theorem dX3_isAheadOfAsk_30 : decode cX3_isAheadOfAsk 30 = .ok (.goto 5, 3) := by decide +kernel
theorem dX3_isAheadOfAsk_33 : decode cX3_isAheadOfAsk 33 = .ok (.bipush 9, 2) := by decide +kernel
theorem dX3_isAheadOfAsk_35 : decode cX3_isAheadOfAsk 35 = .ok (.istore_n 1, 1) := by decide +kernel
theorem dX3_isAheadOfAsk_36 : decode cX3_isAheadOfAsk 36 = .ok (.iload_n 1, 1) := by decide +kernel
theorem dX3_isAheadOfAsk_37 : decode cX3_isAheadOfAsk 37 = .ok (.bipush 9, 2) := by decide +kernel
theorem dX3_isAheadOfAsk_39 : decode cX3_isAheadOfAsk 39 = .ok (.if_icmp .eq 15, 3) := by decide +kernel
theorem dX3_isAheadOfAsk_42 : decode cX3_isAheadOfAsk 42 = .ok (.iload_n 1, 1) := by decide +kernel
theorem dX3_isAheadOfAsk_43 : decode cX3_isAheadOfAsk 43 = .ok (.bipush 10, 2) := by decide +kernel
theorem dX3_isAheadOfAsk_45 : decode cX3_isAheadOfAsk 45 = .ok (.if_icmp .eq 9, 3) := by decide +kernel
theorem dX3_isAheadOfAsk_48 : decode cX3_isAheadOfAsk 48 = .ok (.iload_n 1, 1) := by decide +kernel
theorem dX3_isAheadOfAsk_49 : decode cX3_isAheadOfAsk 49 = .ok (.bipush 11, 2) := by decide +kernel
theorem dX3_isAheadOfAsk_51 : decode cX3_isAheadOfAsk 51 = .ok (.if_icmp .ne 7, 3) := by decide +kernel
theorem dX3_isAheadOfAsk_54 : decode cX3_isAheadOfAsk 54 = .ok (.iconst 1, 1) := by decide +kernel
theorem dX3_isAheadOfAsk_55 : decode cX3_isAheadOfAsk 55 = .ok (.goto 4, 3) := by decide +kernel
theorem dX3_isAheadOfAsk_58 : decode cX3_isAheadOfAsk 58 = .ok (.iconst 0, 1) := by decide +kernel
theorem dX3_isAheadOfAsk_59 : decode cX3_isAheadOfAsk 59 = .ok (.ireturn, 1) := by decide +kernel
theorem dX3_openUp_0 : decode cX3_openUp 0 = .ok (.aload_n 0, 1) := by decide +kernel
theorem dX3_openUp_1 : decode cX3_openUp 1 = .ok (.getfield 135, 3) := by decide +kernel
theorem dX3_openUp_4 : decode cX3_openUp 4 = .ok (.bipush 8, 2) := by decide +kernel
theorem dX3_openUp_6 : decode cX3_openUp 6 = .ok (.if_icmp .lt 9, 3) := by decide +kernel
theorem dX3_openUp_9 : decode cX3_openUp 9 = .ok (.aload_n 0, 1) := by decide +kernel
theorem dX3_openUp_10 : decode cX3_openUp 10 = .ok (.iconst 3, 1) := by decide +kernel
theorem dX3_openUp_11 : decode cX3_openUp 11 = .ok (.invokevirtual 96, 3) := by decide +kernel
theorem dX3_openUp_14 : decode cX3_openUp 14 = .ok (.return_, 1) := by decide +kernel
theorem dX3_openUp_15 : decode cX3_openUp 15 = .ok (.aload_n 0, 1) := by decide +kernel
theorem dX3_openUp_16 : decode cX3_openUp 16 = .ok (.dup, 1) := by decide +kernel
theorem dX3_openUp_17 : decode cX3_openUp 17 = .ok (.getfield 135, 3) := by decide +kernel
theorem dX3_openUp_20 : decode cX3_openUp 20 = .ok (.iconst 1, 1) := by decide +kernel
theorem dX3_openUp_21 : decode cX3_openUp 21 = .ok (.iadd, 1) := by decide +kernel
theorem dX3_openUp_22 : decode cX3_openUp 22 = .ok (.putfield 135, 3) := by decide +kernel
theorem dX3_openUp_25 : decode cX3_openUp 25 = .ok (.aload_n 0, 1) := by decide +kernel
theorem dX3_openUp_26 : decode cX3_openUp 26 = .ok (.iload_n 1, 1) := by decide +kernel
theorem dX3_openUp_27 : decode cX3_openUp 27 = .ok (.invokevirtual 185, 3) := by decide +kernel
theorem dX3_openUp_30 : decode cX3_openUp 30 = .ok (.return_, 1) := by decide +kernel
theorem dX3_hold_0 : decode cX3_hold 0 = .ok (.aload_n 0, 1) := by decide +kernel
theorem dX3_hold_1 : decode cX3_hold 1 = .ok (.aload_n 0, 1) := by decide +kernel
theorem dX3_hold_2 : decode cX3_hold 2 = .ok (.getfield 49, 3) := by decide +kernel
theorem dX3_hold_5 : decode cX3_hold 5 = .ok (.invokestatic 154, 3) := by decide +kernel
theorem dX3_hold_8 : decode cX3_hold 8 = .ok (.invokevirtual 157, 3) := by decide +kernel
theorem dX3_hold_11 : decode cX3_hold 11 = .ok (.aload_n 0, 1) := by decide +kernel
theorem dX3_hold_12 : decode cX3_hold 12 = .ok (.aload_n 0, 1) := by decide +kernel
theorem dX3_hold_13 : decode cX3_hold 13 = .ok (.getfield 49, 3) := by decide +kernel
theorem dX3_hold_16 : decode cX3_hold 16 = .ok (.invokevirtual 185, 3) := by decide +kernel
theorem dX3_hold_19 : decode cX3_hold 19 = .ok (.aload_n 0, 1) := by decide +kernel
theorem dX3_hold_20 : decode cX3_hold 20 = .ok (.iconst 1, 1) := by decide +kernel
theorem dX3_hold_21 : decode cX3_hold 21 = .ok (.putfield 141, 3) := by decide +kernel
theorem dX3_hold_24 : decode cX3_hold 24 = .ok (.return_, 1) := by decide +kernel
theorem dX3_putWaiting_0 : decode cX3_putWaiting 0 = .ok (.aload_n 0, 1) := by decide +kernel
theorem dX3_putWaiting_1 : decode cX3_putWaiting 1 = .ok (.getfield 132, 3) := by decide +kernel
theorem dX3_putWaiting_4 : decode cX3_putWaiting 4 = .ok (.ifCond .lt 35, 3) := by decide +kernel
theorem dX3_putWaiting_7 : decode cX3_putWaiting 7 = .ok (.aload_n 0, 1) := by decide +kernel
theorem dX3_putWaiting_8 : decode cX3_putWaiting 8 = .ok (.getfield 132, 3) := by decide +kernel
theorem dX3_putWaiting_11 : decode cX3_putWaiting 11 = .ok (.aload_n 0, 1) := by decide +kernel
theorem dX3_putWaiting_12 : decode cX3_putWaiting 12 = .ok (.getfield 15, 3) := by decide +kernel
theorem dX3_putWaiting_15 : decode cX3_putWaiting 15 = .ok (.arraylength, 1) := by decide +kernel
theorem dX3_putWaiting_16 : decode cX3_putWaiting 16 = .ok (.if_icmp .ge 23, 3) := by decide +kernel
theorem dX3_putWaiting_19 : decode cX3_putWaiting 19 = .ok (.aload_n 0, 1) := by decide +kernel
theorem dX3_putWaiting_20 : decode cX3_putWaiting 20 = .ok (.getfield 15, 3) := by decide +kernel
theorem dX3_putWaiting_23 : decode cX3_putWaiting 23 = .ok (.aload_n 0, 1) := by decide +kernel
theorem dX3_putWaiting_24 : decode cX3_putWaiting 24 = .ok (.getfield 132, 3) := by decide +kernel
theorem dX3_putWaiting_27 : decode cX3_putWaiting 27 = .ok (.iload_n 1, 1) := by decide +kernel
theorem dX3_putWaiting_28 : decode cX3_putWaiting 28 = .ok (.iastore, 1) := by decide +kernel
theorem dX3_putWaiting_29 : decode cX3_putWaiting 29 = .ok (.aload_n 0, 1) := by decide +kernel
theorem dX3_putWaiting_30 : decode cX3_putWaiting 30 = .ok (.dup, 1) := by decide +kernel
theorem dX3_putWaiting_31 : decode cX3_putWaiting 31 = .ok (.getfield 132, 3) := by decide +kernel
theorem dX3_putWaiting_34 : decode cX3_putWaiting 34 = .ok (.iconst 1, 1) := by decide +kernel
theorem dX3_putWaiting_35 : decode cX3_putWaiting 35 = .ok (.iadd, 1) := by decide +kernel
theorem dX3_putWaiting_36 : decode cX3_putWaiting 36 = .ok (.putfield 132, 3) := by decide +kernel
theorem dX3_putWaiting_39 : decode cX3_putWaiting 39 = .ok (.return_, 1) := by decide +kernel
theorem dX3_dropWaiting_0 : decode cX3_dropWaiting 0 = .ok (.aload_n 0, 1) := by decide +kernel
theorem dX3_dropWaiting_1 : decode cX3_dropWaiting 1 = .ok (.getfield 132, 3) := by decide +kernel
theorem dX3_dropWaiting_4 : decode cX3_dropWaiting 4 = .ok (.ifCond .le 67, 3) := by decide +kernel
theorem dX3_dropWaiting_7 : decode cX3_dropWaiting 7 = .ok (.aload_n 0, 1) := by decide +kernel
theorem dX3_dropWaiting_8 : decode cX3_dropWaiting 8 = .ok (.getfield 132, 3) := by decide +kernel
theorem dX3_dropWaiting_11 : decode cX3_dropWaiting 11 = .ok (.aload_n 0, 1) := by decide +kernel
theorem dX3_dropWaiting_12 : decode cX3_dropWaiting 12 = .ok (.getfield 15, 3) := by decide +kernel
theorem dX3_dropWaiting_15 : decode cX3_dropWaiting 15 = .ok (.arraylength, 1) := by decide +kernel
theorem dX3_dropWaiting_16 : decode cX3_dropWaiting 16 = .ok (.if_icmp .gt 55, 3) := by decide +kernel
theorem dX3_dropWaiting_19 : decode cX3_dropWaiting 19 = .ok (.aload_n 0, 1) := by decide +kernel
theorem dX3_dropWaiting_20 : decode cX3_dropWaiting 20 = .ok (.dup, 1) := by decide +kernel
theorem dX3_dropWaiting_21 : decode cX3_dropWaiting 21 = .ok (.getfield 132, 3) := by decide +kernel
theorem dX3_dropWaiting_24 : decode cX3_dropWaiting 24 = .ok (.iconst 1, 1) := by decide +kernel
theorem dX3_dropWaiting_25 : decode cX3_dropWaiting 25 = .ok (.isub, 1) := by decide +kernel
theorem dX3_dropWaiting_26 : decode cX3_dropWaiting 26 = .ok (.putfield 132, 3) := by decide +kernel
theorem dX3_dropWaiting_29 : decode cX3_dropWaiting 29 = .ok (.aload_n 0, 1) := by decide +kernel
theorem dX3_dropWaiting_30 : decode cX3_dropWaiting 30 = .ok (.getfield 15, 3) := by decide +kernel
theorem dX3_dropWaiting_33 : decode cX3_dropWaiting 33 = .ok (.aload_n 0, 1) := by decide +kernel
theorem dX3_dropWaiting_34 : decode cX3_dropWaiting 34 = .ok (.getfield 132, 3) := by decide +kernel
theorem dX3_dropWaiting_37 : decode cX3_dropWaiting 37 = .ok (.iaload, 1) := by decide +kernel
theorem dX3_dropWaiting_38 : decode cX3_dropWaiting 38 = .ok (.istore_n 1, 1) := by decide +kernel
theorem dX3_dropWaiting_39 : decode cX3_dropWaiting 39 = .ok (.aload_n 0, 1) := by decide +kernel
theorem dX3_dropWaiting_40 : decode cX3_dropWaiting 40 = .ok (.dup, 1) := by decide +kernel
theorem dX3_dropWaiting_41 : decode cX3_dropWaiting 41 = .ok (.getfield 135, 3) := by decide +kernel
theorem dX3_dropWaiting_44 : decode cX3_dropWaiting 44 = .ok (.iload_n 1, 1) := by decide +kernel
theorem dX3_dropWaiting_45 : decode cX3_dropWaiting 45 = .ok (.bipush 32, 2) := by decide +kernel
theorem dX3_dropWaiting_47 : decode cX3_dropWaiting 47 = .ok (.if_icmp .eq 15, 3) := by decide +kernel
theorem dX3_dropWaiting_50 : decode cX3_dropWaiting 50 = .ok (.iload_n 1, 1) := by decide +kernel
theorem dX3_dropWaiting_51 : decode cX3_dropWaiting 51 = .ok (.bipush 11, 2) := by decide +kernel
theorem dX3_dropWaiting_53 : decode cX3_dropWaiting 53 = .ok (.if_icmp .eq 9, 3) := by decide +kernel
theorem dX3_dropWaiting_56 : decode cX3_dropWaiting 56 = .ok (.iload_n 1, 1) := by decide +kernel
theorem dX3_dropWaiting_57 : decode cX3_dropWaiting 57 = .ok (.bipush 40, 2) := by decide +kernel
theorem dX3_dropWaiting_59 : decode cX3_dropWaiting 59 = .ok (.if_icmp .ne 7, 3) := by decide +kernel
theorem dX3_dropWaiting_62 : decode cX3_dropWaiting 62 = .ok (.iconst 1, 1) := by decide +kernel
theorem dX3_dropWaiting_63 : decode cX3_dropWaiting 63 = .ok (.goto 4, 3) := by decide +kernel
theorem dX3_dropWaiting_66 : decode cX3_dropWaiting 66 = .ok (.iconst 0, 1) := by decide +kernel
theorem dX3_dropWaiting_67 : decode cX3_dropWaiting 67 = .ok (.isub, 1) := by decide +kernel
theorem dX3_dropWaiting_68 : decode cX3_dropWaiting 68 = .ok (.putfield 135, 3) := by decide +kernel
theorem dX3_dropWaiting_71 : decode cX3_dropWaiting 71 = .ok (.return_, 1) := by decide +kernel
theorem dX3_release_0 : decode cX3_release 0 = .ok (.iconst 0, 1) := by decide +kernel
theorem dX3_release_1 : decode cX3_release 1 = .ok (.istore_n 2, 1) := by decide +kernel
theorem dX3_release_2 : decode cX3_release 2 = .ok (.iload_n 2, 1) := by decide +kernel
theorem dX3_release_3 : decode cX3_release 3 = .ok (.bipush 64, 2) := by decide +kernel
theorem dX3_release_5 : decode cX3_release 5 = .ok (.if_icmp .ge 65, 3) := by decide +kernel
theorem dX3_release_8 : decode cX3_release 8 = .ok (.aload_n 0, 1) := by decide +kernel
theorem dX3_release_9 : decode cX3_release 9 = .ok (.getfield 132, 3) := by decide +kernel
theorem dX3_release_12 : decode cX3_release 12 = .ok (.ifCond .le 58, 3) := by decide +kernel
theorem dX3_release_15 : decode cX3_release 15 = .ok (.aload_n 0, 1) := by decide +kernel
theorem dX3_release_16 : decode cX3_release 16 = .ok (.getfield 132, 3) := by decide +kernel
theorem dX3_release_19 : decode cX3_release 19 = .ok (.aload_n 0, 1) := by decide +kernel
theorem dX3_release_20 : decode cX3_release 20 = .ok (.getfield 15, 3) := by decide +kernel
theorem dX3_release_23 : decode cX3_release 23 = .ok (.arraylength, 1) := by decide +kernel
theorem dX3_release_24 : decode cX3_release 24 = .ok (.if_icmp .gt 46, 3) := by decide +kernel
theorem dX3_release_27 : decode cX3_release 27 = .ok (.aload_n 0, 1) := by decide +kernel
theorem dX3_release_28 : decode cX3_release 28 = .ok (.getfield 15, 3) := by decide +kernel
theorem dX3_release_31 : decode cX3_release 31 = .ok (.aload_n 0, 1) := by decide +kernel
theorem dX3_release_32 : decode cX3_release 32 = .ok (.getfield 132, 3) := by decide +kernel
theorem dX3_release_35 : decode cX3_release 35 = .ok (.iconst 1, 1) := by decide +kernel
theorem dX3_release_36 : decode cX3_release 36 = .ok (.isub, 1) := by decide +kernel
theorem dX3_release_37 : decode cX3_release 37 = .ok (.iaload, 1) := by decide +kernel
theorem dX3_release_38 : decode cX3_release 38 = .ok (.istore_n 3, 1) := by decide +kernel
theorem dX3_release_39 : decode cX3_release 39 = .ok (.iload_n 3, 1) := by decide +kernel
theorem dX3_release_40 : decode cX3_release 40 = .ok (.invokestatic 154, 3) := by decide +kernel
theorem dX3_release_43 : decode cX3_release 43 = .ok (.iload_n 1, 1) := by decide +kernel
theorem dX3_release_44 : decode cX3_release 44 = .ok (.if_icmp .ge 4, 3) := by decide +kernel
theorem dX3_release_47 : decode cX3_release 47 = .ok (.return_, 1) := by decide +kernel
theorem dX3_release_48 : decode cX3_release 48 = .ok (.aload_n 0, 1) := by decide +kernel
theorem dX3_release_49 : decode cX3_release 49 = .ok (.getfield 37, 3) := by decide +kernel
theorem dX3_release_52 : decode cX3_release 52 = .ok (.sipush 10000, 3) := by decide +kernel
theorem dX3_release_55 : decode cX3_release 55 = .ok (.iload_n 3, 1) := by decide +kernel
theorem dX3_release_56 : decode cX3_release 56 = .ok (.iadd, 1) := by decide +kernel
theorem dX3_release_57 : decode cX3_release 57 = .ok (.invokevirtual 163, 3) := by decide +kernel
theorem dX3_release_60 : decode cX3_release 60 = .ok (.aload_n 0, 1) := by decide +kernel
theorem dX3_release_61 : decode cX3_release 61 = .ok (.invokevirtual 182, 3) := by decide +kernel
theorem dX3_release_64 : decode cX3_release 64 = .ok (.iinc 2 1, 3) := by decide +kernel
theorem dX3_release_67 : decode cX3_release 67 = .ok (.goto (-65), 3) := by decide +kernel
theorem dX3_release_70 : decode cX3_release 70 = .ok (.return_, 1) := by decide +kernel
theorem dX3_bindingOf_0 : decode cX3_bindingOf 0 = .ok (.iload_n 0, 1) := by decide +kernel
theorem dX3_bindingOf_1 : decode cX3_bindingOf 1 = .ok (.tableswitch 159 9 40 #[145, 147, 149, 159, 159, 159, 159, 159, 159, 159, 159, 159, 159, 159, 159, 159, 159, 159, 159, 151, 151, 153, 153, 143, 159, 159, 159, 159, 159, 159, 159, 156], 143) := by decide +kernel
theorem dX3_bindingOf_144 : decode cX3_bindingOf 144 = .ok (.iconst 0, 1) := by decide +kernel
theorem dX3_bindingOf_145 : decode cX3_bindingOf 145 = .ok (.ireturn, 1) := by decide +kernel
theorem dX3_bindingOf_146 : decode cX3_bindingOf 146 = .ok (.iconst 1, 1) := by decide +kernel
theorem dX3_bindingOf_147 : decode cX3_bindingOf 147 = .ok (.ireturn, 1) := by decide +kernel
theorem dX3_bindingOf_148 : decode cX3_bindingOf 148 = .ok (.iconst 2, 1) := by decide +kernel
theorem dX3_bindingOf_149 : decode cX3_bindingOf 149 = .ok (.ireturn, 1) := by decide +kernel
theorem dX3_bindingOf_150 : decode cX3_bindingOf 150 = .ok (.iconst 3, 1) := by decide +kernel
theorem dX3_bindingOf_151 : decode cX3_bindingOf 151 = .ok (.ireturn, 1) := by decide +kernel
theorem dX3_bindingOf_152 : decode cX3_bindingOf 152 = .ok (.iconst 5, 1) := by decide +kernel
theorem dX3_bindingOf_153 : decode cX3_bindingOf 153 = .ok (.ireturn, 1) := by decide +kernel
theorem dX3_bindingOf_154 : decode cX3_bindingOf 154 = .ok (.bipush 6, 2) := by decide +kernel
theorem dX3_bindingOf_156 : decode cX3_bindingOf 156 = .ok (.ireturn, 1) := by decide +kernel
theorem dX3_bindingOf_157 : decode cX3_bindingOf 157 = .ok (.bipush 7, 2) := by decide +kernel
theorem dX3_bindingOf_159 : decode cX3_bindingOf 159 = .ok (.ireturn, 1) := by decide +kernel
theorem dX3_bindingOf_160 : decode cX3_bindingOf 160 = .ok (.iconst 4, 1) := by decide +kernel
theorem dX3_bindingOf_161 : decode cX3_bindingOf 161 = .ok (.ireturn, 1) := by decide +kernel
