theorem dX1_init_0 : decode cX1_init 0 = .ok (.aload_n 0, 1) := by decide +kernel
theorem dX1_init_1 : decode cX1_init 1 = .ok (.invokespecial 3, 3) := by decide +kernel
theorem dX1_init_4 : decode cX1_init 4 = .ok (.aload_n 0, 1) := by decide +kernel
theorem dX1_init_5 : decode cX1_init 5 = .ok (.new 9, 3) := by decide +kernel
theorem dX1_init_8 : decode cX1_init 8 = .ok (.dup, 1) := by decide +kernel
theorem dX1_init_9 : decode cX1_init 9 = .ok (.invokespecial 11, 3) := by decide +kernel
theorem dX1_init_12 : decode cX1_init 12 = .ok (.putfield 12, 3) := by decide +kernel
theorem dX1_init_15 : decode cX1_init 15 = .ok (.aload_n 0, 1) := by decide +kernel
theorem dX1_init_16 : decode cX1_init 16 = .ok (.bipush 30, 2) := by decide +kernel
theorem dX1_init_18 : decode cX1_init 18 = .ok (.anewarray 9, 3) := by decide +kernel
theorem dX1_init_21 : decode cX1_init 21 = .ok (.putfield 18, 3) := by decide +kernel
theorem dX1_init_24 : decode cX1_init 24 = .ok (.iconst 0, 1) := by decide +kernel
theorem dX1_init_25 : decode cX1_init 25 = .ok (.istore_n 1, 1) := by decide +kernel
theorem dX1_init_26 : decode cX1_init 26 = .ok (.iload_n 1, 1) := by decide +kernel
theorem dX1_init_27 : decode cX1_init 27 = .ok (.aload_n 0, 1) := by decide +kernel
theorem dX1_init_28 : decode cX1_init 28 = .ok (.getfield 18, 3) := by decide +kernel
theorem dX1_init_31 : decode cX1_init 31 = .ok (.arraylength, 1) := by decide +kernel
theorem dX1_init_32 : decode cX1_init 32 = .ok (.if_icmp .ge 22, 3) := by decide +kernel
theorem dX1_init_35 : decode cX1_init 35 = .ok (.aload_n 0, 1) := by decide +kernel
theorem dX1_init_36 : decode cX1_init 36 = .ok (.getfield 18, 3) := by decide +kernel
theorem dX1_init_39 : decode cX1_init 39 = .ok (.iload_n 1, 1) := by decide +kernel
theorem dX1_init_40 : decode cX1_init 40 = .ok (.new 9, 3) := by decide +kernel
theorem dX1_init_43 : decode cX1_init 43 = .ok (.dup, 1) := by decide +kernel
theorem dX1_init_44 : decode cX1_init 44 = .ok (.invokespecial 11, 3) := by decide +kernel
theorem dX1_init_47 : decode cX1_init 47 = .ok (.aastore, 1) := by decide +kernel
theorem dX1_init_48 : decode cX1_init 48 = .ok (.iinc 1 1, 3) := by decide +kernel
theorem dX1_init_51 : decode cX1_init 51 = .ok (.goto (-25), 3) := by decide +kernel
theorem dX1_init_54 : decode cX1_init 54 = .ok (.aload_n 0, 1) := by decide +kernel
theorem dX1_init_55 : decode cX1_init 55 = .ok (.bipush 9, 2) := by decide +kernel
theorem dX1_init_57 : decode cX1_init 57 = .ok (.newarray .int, 2) := by decide +kernel
theorem dX1_init_59 : decode cX1_init 59 = .ok (.putfield 22, 3) := by decide +kernel
theorem dX1_init_62 : decode cX1_init 62 = .ok (.aload_n 0, 1) := by decide +kernel
theorem dX1_init_63 : decode cX1_init 63 = .ok (.bipush 9, 2) := by decide +kernel
theorem dX1_init_65 : decode cX1_init 65 = .ok (.newarray .int, 2) := by decide +kernel
theorem dX1_init_67 : decode cX1_init 67 = .ok (.putfield 26, 3) := by decide +kernel
theorem dX1_init_70 : decode cX1_init 70 = .ok (.aload_n 0, 1) := by decide +kernel
theorem dX1_init_71 : decode cX1_init 71 = .ok (.bipush 9, 2) := by decide +kernel
theorem dX1_init_73 : decode cX1_init 73 = .ok (.newarray .int, 2) := by decide +kernel
theorem dX1_init_75 : decode cX1_init 75 = .ok (.putfield 29, 3) := by decide +kernel
theorem dX1_init_78 : decode cX1_init 78 = .ok (.aload_n 0, 1) := by decide +kernel
theorem dX1_init_79 : decode cX1_init 79 = .ok (.sipush 240, 3) := by decide +kernel
theorem dX1_init_82 : decode cX1_init 82 = .ok (.newarray .int, 2) := by decide +kernel
theorem dX1_init_84 : decode cX1_init 84 = .ok (.putfield 32, 3) := by decide +kernel
theorem dX1_init_87 : decode cX1_init 87 = .ok (.aload_n 0, 1) := by decide +kernel
theorem dX1_init_88 : decode cX1_init 88 = .ok (.bipush 90, 2) := by decide +kernel
theorem dX1_init_90 : decode cX1_init 90 = .ok (.newarray .int, 2) := by decide +kernel
theorem dX1_init_92 : decode cX1_init 92 = .ok (.putfield 35, 3) := by decide +kernel
theorem dX1_init_95 : decode cX1_init 95 = .ok (.aload_n 0, 1) := by decide +kernel
theorem dX1_init_96 : decode cX1_init 96 = .ok (.iconst (-1), 1) := by decide +kernel
theorem dX1_init_97 : decode cX1_init 97 = .ok (.putfield 38, 3) := by decide +kernel
theorem dX1_init_100 : decode cX1_init 100 = .ok (.aload_n 0, 1) := by decide +kernel
theorem dX1_init_101 : decode cX1_init 101 = .ok (.sipush 1023, 3) := by decide +kernel
theorem dX1_init_104 : decode cX1_init 104 = .ok (.putfield 42, 3) := by decide +kernel
theorem dX1_init_107 : decode cX1_init 107 = .ok (.aload_n 0, 1) := by decide +kernel
theorem dX1_init_108 : decode cX1_init 108 = .ok (.bipush 9, 2) := by decide +kernel
theorem dX1_init_110 : decode cX1_init 110 = .ok (.newarray .int, 2) := by decide +kernel
theorem dX1_init_112 : decode cX1_init 112 = .ok (.putfield 45, 3) := by decide +kernel
theorem dX1_init_115 : decode cX1_init 115 = .ok (.return_, 1) := by decide +kernel
theorem dX1_copyFrom_0 : decode cX1_copyFrom 0 = .ok (.aload_n 0, 1) := by decide +kernel
theorem dX1_copyFrom_1 : decode cX1_copyFrom 1 = .ok (.getfield 12, 3) := by decide +kernel
theorem dX1_copyFrom_4 : decode cX1_copyFrom 4 = .ok (.aload_n 1, 1) := by decide +kernel
theorem dX1_copyFrom_5 : decode cX1_copyFrom 5 = .ok (.getfield 12, 3) := by decide +kernel
theorem dX1_copyFrom_8 : decode cX1_copyFrom 8 = .ok (.invokevirtual 48, 3) := by decide +kernel
theorem dX1_copyFrom_11 : decode cX1_copyFrom 11 = .ok (.aload_n 0, 1) := by decide +kernel
theorem dX1_copyFrom_12 : decode cX1_copyFrom 12 = .ok (.aload_n 1, 1) := by decide +kernel
theorem dX1_copyFrom_13 : decode cX1_copyFrom 13 = .ok (.getfield 52, 3) := by decide +kernel
theorem dX1_copyFrom_16 : decode cX1_copyFrom 16 = .ok (.putfield 52, 3) := by decide +kernel
theorem dX1_copyFrom_19 : decode cX1_copyFrom 19 = .ok (.iconst 0, 1) := by decide +kernel
theorem dX1_copyFrom_20 : decode cX1_copyFrom 20 = .ok (.istore_n 2, 1) := by decide +kernel
theorem dX1_copyFrom_21 : decode cX1_copyFrom 21 = .ok (.iload_n 2, 1) := by decide +kernel
theorem dX1_copyFrom_22 : decode cX1_copyFrom 22 = .ok (.aload_n 0, 1) := by decide +kernel
theorem dX1_copyFrom_23 : decode cX1_copyFrom 23 = .ok (.getfield 52, 3) := by decide +kernel
theorem dX1_copyFrom_26 : decode cX1_copyFrom 26 = .ok (.if_icmp .ge 33, 3) := by decide +kernel
theorem dX1_copyFrom_29 : decode cX1_copyFrom 29 = .ok (.iload_n 2, 1) := by decide +kernel
theorem dX1_copyFrom_30 : decode cX1_copyFrom 30 = .ok (.aload_n 0, 1) := by decide +kernel
theorem dX1_copyFrom_31 : decode cX1_copyFrom 31 = .ok (.getfield 18, 3) := by decide +kernel
theorem dX1_copyFrom_34 : decode cX1_copyFrom 34 = .ok (.arraylength, 1) := by decide +kernel
theorem dX1_copyFrom_35 : decode cX1_copyFrom 35 = .ok (.if_icmp .ge 24, 3) := by decide +kernel
theorem dX1_copyFrom_38 : decode cX1_copyFrom 38 = .ok (.aload_n 0, 1) := by decide +kernel
theorem dX1_copyFrom_39 : decode cX1_copyFrom 39 = .ok (.getfield 18, 3) := by decide +kernel
theorem dX1_copyFrom_42 : decode cX1_copyFrom 42 = .ok (.iload_n 2, 1) := by decide +kernel
theorem dX1_copyFrom_43 : decode cX1_copyFrom 43 = .ok (.aaload, 1) := by decide +kernel
theorem dX1_copyFrom_44 : decode cX1_copyFrom 44 = .ok (.aload_n 1, 1) := by decide +kernel
theorem dX1_copyFrom_45 : decode cX1_copyFrom 45 = .ok (.getfield 18, 3) := by decide +kernel
theorem dX1_copyFrom_48 : decode cX1_copyFrom 48 = .ok (.iload_n 2, 1) := by decide +kernel
theorem dX1_copyFrom_49 : decode cX1_copyFrom 49 = .ok (.aaload, 1) := by decide +kernel
theorem dX1_copyFrom_50 : decode cX1_copyFrom 50 = .ok (.invokevirtual 48, 3) := by decide +kernel
theorem dX1_copyFrom_53 : decode cX1_copyFrom 53 = .ok (.iinc 2 1, 3) := by decide +kernel
theorem dX1_copyFrom_56 : decode cX1_copyFrom 56 = .ok (.goto (-35), 3) := by decide +kernel
theorem dX1_copyFrom_59 : decode cX1_copyFrom 59 = .ok (.aload_n 1, 1) := by decide +kernel
theorem dX1_copyFrom_60 : decode cX1_copyFrom 60 = .ok (.getfield 22, 3) := by decide +kernel
theorem dX1_copyFrom_63 : decode cX1_copyFrom 63 = .ok (.iconst 0, 1) := by decide +kernel
theorem dX1_copyFrom_64 : decode cX1_copyFrom 64 = .ok (.aload_n 0, 1) := by decide +kernel
theorem dX1_copyFrom_65 : decode cX1_copyFrom 65 = .ok (.getfield 22, 3) := by decide +kernel
theorem dX1_copyFrom_68 : decode cX1_copyFrom 68 = .ok (.iconst 0, 1) := by decide +kernel
theorem dX1_copyFrom_69 : decode cX1_copyFrom 69 = .ok (.bipush 9, 2) := by decide +kernel
theorem dX1_copyFrom_71 : decode cX1_copyFrom 71 = .ok (.invokestatic 55, 3) := by decide +kernel
theorem dX1_copyFrom_74 : decode cX1_copyFrom 74 = .ok (.aload_n 1, 1) := by decide +kernel
theorem dX1_copyFrom_75 : decode cX1_copyFrom 75 = .ok (.getfield 26, 3) := by decide +kernel
theorem dX1_copyFrom_78 : decode cX1_copyFrom 78 = .ok (.iconst 0, 1) := by decide +kernel
theorem dX1_copyFrom_79 : decode cX1_copyFrom 79 = .ok (.aload_n 0, 1) := by decide +kernel
theorem dX1_copyFrom_80 : decode cX1_copyFrom 80 = .ok (.getfield 26, 3) := by decide +kernel
theorem dX1_copyFrom_83 : decode cX1_copyFrom 83 = .ok (.iconst 0, 1) := by decide +kernel
theorem dX1_copyFrom_84 : decode cX1_copyFrom 84 = .ok (.bipush 9, 2) := by decide +kernel
theorem dX1_copyFrom_86 : decode cX1_copyFrom 86 = .ok (.invokestatic 55, 3) := by decide +kernel
theorem dX1_copyFrom_89 : decode cX1_copyFrom 89 = .ok (.aload_n 1, 1) := by decide +kernel
theorem dX1_copyFrom_90 : decode cX1_copyFrom 90 = .ok (.getfield 29, 3) := by decide +kernel
theorem dX1_copyFrom_93 : decode cX1_copyFrom 93 = .ok (.iconst 0, 1) := by decide +kernel
theorem dX1_copyFrom_94 : decode cX1_copyFrom 94 = .ok (.aload_n 0, 1) := by decide +kernel
theorem dX1_copyFrom_95 : decode cX1_copyFrom 95 = .ok (.getfield 29, 3) := by decide +kernel
theorem dX1_copyFrom_98 : decode cX1_copyFrom 98 = .ok (.iconst 0, 1) := by decide +kernel
theorem dX1_copyFrom_99 : decode cX1_copyFrom 99 = .ok (.bipush 9, 2) := by decide +kernel
theorem dX1_copyFrom_101 : decode cX1_copyFrom 101 = .ok (.invokestatic 55, 3) := by decide +kernel
theorem dX1_copyFrom_104 : decode cX1_copyFrom 104 = .ok (.aload_n 0, 1) := by decide +kernel
theorem dX1_copyFrom_105 : decode cX1_copyFrom 105 = .ok (.aload_n 1, 1) := by decide +kernel
theorem dX1_copyFrom_106 : decode cX1_copyFrom 106 = .ok (.getfield 61, 3) := by decide +kernel
theorem dX1_copyFrom_109 : decode cX1_copyFrom 109 = .ok (.putfield 61, 3) := by decide +kernel
theorem dX1_copyFrom_112 : decode cX1_copyFrom 112 = .ok (.aload_n 1, 1) := by decide +kernel
theorem dX1_copyFrom_113 : decode cX1_copyFrom 113 = .ok (.getfield 32, 3) := by decide +kernel
theorem dX1_copyFrom_116 : decode cX1_copyFrom 116 = .ok (.iconst 0, 1) := by decide +kernel
theorem dX1_copyFrom_117 : decode cX1_copyFrom 117 = .ok (.aload_n 0, 1) := by decide +kernel
theorem dX1_copyFrom_118 : decode cX1_copyFrom 118 = .ok (.getfield 32, 3) := by decide +kernel
theorem dX1_copyFrom_121 : decode cX1_copyFrom 121 = .ok (.iconst 0, 1) := by decide +kernel
theorem dX1_copyFrom_122 : decode cX1_copyFrom 122 = .ok (.sipush 240, 3) := by decide +kernel
theorem dX1_copyFrom_125 : decode cX1_copyFrom 125 = .ok (.invokestatic 55, 3) := by decide +kernel
theorem dX1_copyFrom_128 : decode cX1_copyFrom 128 = .ok (.aload_n 1, 1) := by decide +kernel
theorem dX1_copyFrom_129 : decode cX1_copyFrom 129 = .ok (.getfield 35, 3) := by decide +kernel
theorem dX1_copyFrom_132 : decode cX1_copyFrom 132 = .ok (.iconst 0, 1) := by decide +kernel
theorem dX1_copyFrom_133 : decode cX1_copyFrom 133 = .ok (.aload_n 0, 1) := by decide +kernel
theorem dX1_copyFrom_134 : decode cX1_copyFrom 134 = .ok (.getfield 35, 3) := by decide +kernel
theorem dX1_copyFrom_137 : decode cX1_copyFrom 137 = .ok (.iconst 0, 1) := by decide +kernel
theorem dX1_copyFrom_138 : decode cX1_copyFrom 138 = .ok (.bipush 90, 2) := by decide +kernel
theorem dX1_copyFrom_140 : decode cX1_copyFrom 140 = .ok (.invokestatic 55, 3) := by decide +kernel
theorem dX1_copyFrom_143 : decode cX1_copyFrom 143 = .ok (.aload_n 0, 1) := by decide +kernel
theorem dX1_copyFrom_144 : decode cX1_copyFrom 144 = .ok (.aload_n 1, 1) := by decide +kernel
theorem dX1_copyFrom_145 : decode cX1_copyFrom 145 = .ok (.getfield 64, 3) := by decide +kernel
theorem dX1_copyFrom_148 : decode cX1_copyFrom 148 = .ok (.putfield 64, 3) := by decide +kernel
theorem dX1_copyFrom_151 : decode cX1_copyFrom 151 = .ok (.aload_n 0, 1) := by decide +kernel
theorem dX1_copyFrom_152 : decode cX1_copyFrom 152 = .ok (.aload_n 1, 1) := by decide +kernel
theorem dX1_copyFrom_153 : decode cX1_copyFrom 153 = .ok (.getfield 38, 3) := by decide +kernel
theorem dX1_copyFrom_156 : decode cX1_copyFrom 156 = .ok (.putfield 38, 3) := by decide +kernel
theorem dX1_copyFrom_159 : decode cX1_copyFrom 159 = .ok (.aload_n 0, 1) := by decide +kernel
theorem dX1_copyFrom_160 : decode cX1_copyFrom 160 = .ok (.aload_n 1, 1) := by decide +kernel
theorem dX1_copyFrom_161 : decode cX1_copyFrom 161 = .ok (.getfield 42, 3) := by decide +kernel
theorem dX1_copyFrom_164 : decode cX1_copyFrom 164 = .ok (.putfield 42, 3) := by decide +kernel
theorem dX1_copyFrom_167 : decode cX1_copyFrom 167 = .ok (.aload_n 0, 1) := by decide +kernel
theorem dX1_copyFrom_168 : decode cX1_copyFrom 168 = .ok (.aload_n 1, 1) := by decide +kernel
theorem dX1_copyFrom_169 : decode cX1_copyFrom 169 = .ok (.getfield 67, 3) := by decide +kernel
theorem dX1_copyFrom_172 : decode cX1_copyFrom 172 = .ok (.putfield 67, 3) := by decide +kernel
theorem dX1_copyFrom_175 : decode cX1_copyFrom 175 = .ok (.aload_n 1, 1) := by decide +kernel
theorem dX1_copyFrom_176 : decode cX1_copyFrom 176 = .ok (.getfield 45, 3) := by decide +kernel
theorem dX1_copyFrom_179 : decode cX1_copyFrom 179 = .ok (.iconst 0, 1) := by decide +kernel
theorem dX1_copyFrom_180 : decode cX1_copyFrom 180 = .ok (.aload_n 0, 1) := by decide +kernel
theorem dX1_copyFrom_181 : decode cX1_copyFrom 181 = .ok (.getfield 45, 3) := by decide +kernel
theorem dX1_copyFrom_184 : decode cX1_copyFrom 184 = .ok (.iconst 0, 1) := by decide +kernel
theorem dX1_copyFrom_185 : decode cX1_copyFrom 185 = .ok (.bipush 9, 2) := by decide +kernel
theorem dX1_copyFrom_187 : decode cX1_copyFrom 187 = .ok (.invokestatic 55, 3) := by decide +kernel
theorem dX1_copyFrom_190 : decode cX1_copyFrom 190 = .ok (.aload_n 0, 1) := by decide +kernel
theorem dX1_copyFrom_191 : decode cX1_copyFrom 191 = .ok (.aload_n 1, 1) := by decide +kernel
theorem dX1_copyFrom_192 : decode cX1_copyFrom 192 = .ok (.getfield 70, 3) := by decide +kernel
theorem dX1_copyFrom_195 : decode cX1_copyFrom 195 = .ok (.putfield 70, 3) := by decide +kernel
theorem dX1_copyFrom_198 : decode cX1_copyFrom 198 = .ok (.return_, 1) := by decide +kernel
theorem dX1_keepStep_0 : decode cX1_keepStep 0 = .ok (.aload_n 0, 1) := by decide +kernel
theorem dX1_keepStep_1 : decode cX1_keepStep 1 = .ok (.getfield 52, 3) := by decide +kernel
theorem dX1_keepStep_4 : decode cX1_keepStep 4 = .ok (.aload_n 0, 1) := by decide +kernel
theorem dX1_keepStep_5 : decode cX1_keepStep 5 = .ok (.getfield 18, 3) := by decide +kernel
theorem dX1_keepStep_8 : decode cX1_keepStep 8 = .ok (.arraylength, 1) := by decide +kernel
theorem dX1_keepStep_9 : decode cX1_keepStep 9 = .ok (.if_icmp .lt 65, 3) := by decide +kernel
theorem dX1_keepStep_12 : decode cX1_keepStep 12 = .ok (.aload_n 0, 1) := by decide +kernel
theorem dX1_keepStep_13 : decode cX1_keepStep 13 = .ok (.getfield 18, 3) := by decide +kernel
theorem dX1_keepStep_16 : decode cX1_keepStep 16 = .ok (.iconst 0, 1) := by decide +kernel
theorem dX1_keepStep_17 : decode cX1_keepStep 17 = .ok (.aaload, 1) := by decide +kernel
theorem dX1_keepStep_18 : decode cX1_keepStep 18 = .ok (.astore_n 1, 1) := by decide +kernel
theorem dX1_keepStep_19 : decode cX1_keepStep 19 = .ok (.iconst 1, 1) := by decide +kernel
theorem dX1_keepStep_20 : decode cX1_keepStep 20 = .ok (.istore_n 2, 1) := by decide +kernel
theorem dX1_keepStep_21 : decode cX1_keepStep 21 = .ok (.iload_n 2, 1) := by decide +kernel
theorem dX1_keepStep_22 : decode cX1_keepStep 22 = .ok (.aload_n 0, 1) := by decide +kernel
theorem dX1_keepStep_23 : decode cX1_keepStep 23 = .ok (.getfield 18, 3) := by decide +kernel
theorem dX1_keepStep_26 : decode cX1_keepStep 26 = .ok (.arraylength, 1) := by decide +kernel
theorem dX1_keepStep_27 : decode cX1_keepStep 27 = .ok (.if_icmp .ge 23, 3) := by decide +kernel
theorem dX1_keepStep_30 : decode cX1_keepStep 30 = .ok (.aload_n 0, 1) := by decide +kernel
theorem dX1_keepStep_31 : decode cX1_keepStep 31 = .ok (.getfield 18, 3) := by decide +kernel
theorem dX1_keepStep_34 : decode cX1_keepStep 34 = .ok (.iload_n 2, 1) := by decide +kernel
theorem dX1_keepStep_35 : decode cX1_keepStep 35 = .ok (.iconst 1, 1) := by decide +kernel
theorem dX1_keepStep_36 : decode cX1_keepStep 36 = .ok (.isub, 1) := by decide +kernel
theorem dX1_keepStep_37 : decode cX1_keepStep 37 = .ok (.aload_n 0, 1) := by decide +kernel
theorem dX1_keepStep_38 : decode cX1_keepStep 38 = .ok (.getfield 18, 3) := by decide +kernel
theorem dX1_keepStep_41 : decode cX1_keepStep 41 = .ok (.iload_n 2, 1) := by decide +kernel
theorem dX1_keepStep_42 : decode cX1_keepStep 42 = .ok (.aaload, 1) := by decide +kernel
theorem dX1_keepStep_43 : decode cX1_keepStep 43 = .ok (.aastore, 1) := by decide +kernel
theorem dX1_keepStep_44 : decode cX1_keepStep 44 = .ok (.iinc 2 1, 3) := by decide +kernel
theorem dX1_keepStep_47 : decode cX1_keepStep 47 = .ok (.goto (-26), 3) := by decide +kernel
theorem dX1_keepStep_50 : decode cX1_keepStep 50 = .ok (.aload_n 0, 1) := by decide +kernel
theorem dX1_keepStep_51 : decode cX1_keepStep 51 = .ok (.getfield 18, 3) := by decide +kernel
theorem dX1_keepStep_54 : decode cX1_keepStep 54 = .ok (.aload_n 0, 1) := by decide +kernel
theorem dX1_keepStep_55 : decode cX1_keepStep 55 = .ok (.getfield 18, 3) := by decide +kernel
theorem dX1_keepStep_58 : decode cX1_keepStep 58 = .ok (.arraylength, 1) := by decide +kernel
theorem dX1_keepStep_59 : decode cX1_keepStep 59 = .ok (.iconst 1, 1) := by decide +kernel
theorem dX1_keepStep_60 : decode cX1_keepStep 60 = .ok (.isub, 1) := by decide +kernel
theorem dX1_keepStep_61 : decode cX1_keepStep 61 = .ok (.aload_n 1, 1) := by decide +kernel
theorem dX1_keepStep_62 : decode cX1_keepStep 62 = .ok (.aastore, 1) := by decide +kernel
theorem dX1_keepStep_63 : decode cX1_keepStep 63 = .ok (.aload_n 0, 1) := by decide +kernel
theorem dX1_keepStep_64 : decode cX1_keepStep 64 = .ok (.aload_n 0, 1) := by decide +kernel
theorem dX1_keepStep_65 : decode cX1_keepStep 65 = .ok (.getfield 18, 3) := by decide +kernel
theorem dX1_keepStep_68 : decode cX1_keepStep 68 = .ok (.arraylength, 1) := by decide +kernel
theorem dX1_keepStep_69 : decode cX1_keepStep 69 = .ok (.iconst 1, 1) := by decide +kernel
theorem dX1_keepStep_70 : decode cX1_keepStep 70 = .ok (.isub, 1) := by decide +kernel
theorem dX1_keepStep_71 : decode cX1_keepStep 71 = .ok (.putfield 52, 3) := by decide +kernel
theorem dX1_keepStep_74 : decode cX1_keepStep 74 = .ok (.aload_n 0, 1) := by decide +kernel
theorem dX1_keepStep_75 : decode cX1_keepStep 75 = .ok (.getfield 18, 3) := by decide +kernel
theorem dX1_keepStep_78 : decode cX1_keepStep 78 = .ok (.aload_n 0, 1) := by decide +kernel
theorem dX1_keepStep_79 : decode cX1_keepStep 79 = .ok (.getfield 52, 3) := by decide +kernel
theorem dX1_keepStep_82 : decode cX1_keepStep 82 = .ok (.aaload, 1) := by decide +kernel
theorem dX1_keepStep_83 : decode cX1_keepStep 83 = .ok (.aload_n 0, 1) := by decide +kernel
theorem dX1_keepStep_84 : decode cX1_keepStep 84 = .ok (.getfield 12, 3) := by decide +kernel
theorem dX1_keepStep_87 : decode cX1_keepStep 87 = .ok (.invokevirtual 48, 3) := by decide +kernel
theorem dX1_keepStep_90 : decode cX1_keepStep 90 = .ok (.aload_n 0, 1) := by decide +kernel
theorem dX1_keepStep_91 : decode cX1_keepStep 91 = .ok (.dup, 1) := by decide +kernel
theorem dX1_keepStep_92 : decode cX1_keepStep 92 = .ok (.getfield 52, 3) := by decide +kernel
theorem dX1_keepStep_95 : decode cX1_keepStep 95 = .ok (.iconst 1, 1) := by decide +kernel
theorem dX1_keepStep_96 : decode cX1_keepStep 96 = .ok (.iadd, 1) := by decide +kernel
theorem dX1_keepStep_97 : decode cX1_keepStep 97 = .ok (.putfield 52, 3) := by decide +kernel
theorem dX1_keepStep_100 : decode cX1_keepStep 100 = .ok (.return_, 1) := by decide +kernel
theorem dX1_writeSpoon_0 : decode cX1_writeSpoon 0 = .ok (.aload_n 0, 1) := by decide +kernel
theorem dX1_writeSpoon_1 : decode cX1_writeSpoon 1 = .ok (.getfield 12, 3) := by decide +kernel
theorem dX1_writeSpoon_4 : decode cX1_writeSpoon 4 = .ok (.getfield 73, 3) := by decide +kernel
theorem dX1_writeSpoon_7 : decode cX1_writeSpoon 7 = .ok (.istore 4, 2) := by decide +kernel
theorem dX1_writeSpoon_9 : decode cX1_writeSpoon 9 = .ok (.iload 4, 2) := by decide +kernel
theorem dX1_writeSpoon_11 : decode cX1_writeSpoon 11 = .ok (.ifCond .lt 64, 3) := by decide +kernel
theorem dX1_writeSpoon_14 : decode cX1_writeSpoon 14 = .ok (.iload 4, 2) := by decide +kernel
theorem dX1_writeSpoon_16 : decode cX1_writeSpoon 16 = .ok (.bipush 60, 2) := by decide +kernel
theorem dX1_writeSpoon_18 : decode cX1_writeSpoon 18 = .ok (.if_icmp .ge 57, 3) := by decide +kernel
theorem dX1_writeSpoon_21 : decode cX1_writeSpoon 21 = .ok (.aload_n 0, 1) := by decide +kernel
theorem dX1_writeSpoon_22 : decode cX1_writeSpoon 22 = .ok (.getfield 32, 3) := by decide +kernel
theorem dX1_writeSpoon_25 : decode cX1_writeSpoon 25 = .ok (.iconst 4, 1) := by decide +kernel
theorem dX1_writeSpoon_26 : decode cX1_writeSpoon 26 = .ok (.iload 4, 2) := by decide +kernel
theorem dX1_writeSpoon_28 : decode cX1_writeSpoon 28 = .ok (.imul, 1) := by decide +kernel
theorem dX1_writeSpoon_29 : decode cX1_writeSpoon 29 = .ok (.iload_n 1, 1) := by decide +kernel
theorem dX1_writeSpoon_30 : decode cX1_writeSpoon 30 = .ok (.iastore, 1) := by decide +kernel
theorem dX1_writeSpoon_31 : decode cX1_writeSpoon 31 = .ok (.aload_n 0, 1) := by decide +kernel
theorem dX1_writeSpoon_32 : decode cX1_writeSpoon 32 = .ok (.getfield 32, 3) := by decide +kernel
theorem dX1_writeSpoon_35 : decode cX1_writeSpoon 35 = .ok (.iconst 4, 1) := by decide +kernel
theorem dX1_writeSpoon_36 : decode cX1_writeSpoon 36 = .ok (.iload 4, 2) := by decide +kernel
theorem dX1_writeSpoon_38 : decode cX1_writeSpoon 38 = .ok (.imul, 1) := by decide +kernel
theorem dX1_writeSpoon_39 : decode cX1_writeSpoon 39 = .ok (.iconst 1, 1) := by decide +kernel
theorem dX1_writeSpoon_40 : decode cX1_writeSpoon 40 = .ok (.iadd, 1) := by decide +kernel
theorem dX1_writeSpoon_41 : decode cX1_writeSpoon 41 = .ok (.aload_n 0, 1) := by decide +kernel
theorem dX1_writeSpoon_42 : decode cX1_writeSpoon 42 = .ok (.getfield 12, 3) := by decide +kernel
theorem dX1_writeSpoon_45 : decode cX1_writeSpoon 45 = .ok (.getfield 76, 3) := by decide +kernel
theorem dX1_writeSpoon_48 : decode cX1_writeSpoon 48 = .ok (.iload_n 1, 1) := by decide +kernel
theorem dX1_writeSpoon_49 : decode cX1_writeSpoon 49 = .ok (.iaload, 1) := by decide +kernel
theorem dX1_writeSpoon_50 : decode cX1_writeSpoon 50 = .ok (.iastore, 1) := by decide +kernel
theorem dX1_writeSpoon_51 : decode cX1_writeSpoon 51 = .ok (.aload_n 0, 1) := by decide +kernel
theorem dX1_writeSpoon_52 : decode cX1_writeSpoon 52 = .ok (.getfield 32, 3) := by decide +kernel
theorem dX1_writeSpoon_55 : decode cX1_writeSpoon 55 = .ok (.iconst 4, 1) := by decide +kernel
theorem dX1_writeSpoon_56 : decode cX1_writeSpoon 56 = .ok (.iload 4, 2) := by decide +kernel
theorem dX1_writeSpoon_58 : decode cX1_writeSpoon 58 = .ok (.imul, 1) := by decide +kernel
theorem dX1_writeSpoon_59 : decode cX1_writeSpoon 59 = .ok (.iconst 2, 1) := by decide +kernel
theorem dX1_writeSpoon_60 : decode cX1_writeSpoon 60 = .ok (.iadd, 1) := by decide +kernel
theorem dX1_writeSpoon_61 : decode cX1_writeSpoon 61 = .ok (.iload_n 2, 1) := by decide +kernel
theorem dX1_writeSpoon_62 : decode cX1_writeSpoon 62 = .ok (.iastore, 1) := by decide +kernel
theorem dX1_writeSpoon_63 : decode cX1_writeSpoon 63 = .ok (.aload_n 0, 1) := by decide +kernel
theorem dX1_writeSpoon_64 : decode cX1_writeSpoon 64 = .ok (.getfield 32, 3) := by decide +kernel
theorem dX1_writeSpoon_67 : decode cX1_writeSpoon 67 = .ok (.iconst 4, 1) := by decide +kernel
theorem dX1_writeSpoon_68 : decode cX1_writeSpoon 68 = .ok (.iload 4, 2) := by decide +kernel
theorem dX1_writeSpoon_70 : decode cX1_writeSpoon 70 = .ok (.imul, 1) := by decide +kernel
theorem dX1_writeSpoon_71 : decode cX1_writeSpoon 71 = .ok (.iconst 3, 1) := by decide +kernel
theorem dX1_writeSpoon_72 : decode cX1_writeSpoon 72 = .ok (.iadd, 1) := by decide +kernel
theorem dX1_writeSpoon_73 : decode cX1_writeSpoon 73 = .ok (.iload_n 3, 1) := by decide +kernel
theorem dX1_writeSpoon_74 : decode cX1_writeSpoon 74 = .ok (.iastore, 1) := by decide +kernel
theorem dX1_writeSpoon_75 : decode cX1_writeSpoon 75 = .ok (.return_, 1) := by decide +kernel
theorem dX1_writeDent_0 : decode cX1_writeDent 0 = .ok (.aload_n 0, 1) := by decide +kernel
theorem dX1_writeDent_1 : decode cX1_writeDent 1 = .ok (.getfield 12, 3) := by decide +kernel
theorem dX1_writeDent_4 : decode cX1_writeDent 4 = .ok (.getfield 79, 3) := by decide +kernel
theorem dX1_writeDent_7 : decode cX1_writeDent 7 = .ok (.istore_n 3, 1) := by decide +kernel
theorem dX1_writeDent_8 : decode cX1_writeDent 8 = .ok (.iload_n 3, 1) := by decide +kernel
theorem dX1_writeDent_9 : decode cX1_writeDent 9 = .ok (.ifCond .lt 56, 3) := by decide +kernel
theorem dX1_writeDent_12 : decode cX1_writeDent 12 = .ok (.iload_n 3, 1) := by decide +kernel
theorem dX1_writeDent_13 : decode cX1_writeDent 13 = .ok (.bipush 30, 2) := by decide +kernel
theorem dX1_writeDent_15 : decode cX1_writeDent 15 = .ok (.if_icmp .ge 50, 3) := by decide +kernel
theorem dX1_writeDent_18 : decode cX1_writeDent 18 = .ok (.aload_n 0, 1) := by decide +kernel
theorem dX1_writeDent_19 : decode cX1_writeDent 19 = .ok (.getfield 35, 3) := by decide +kernel
theorem dX1_writeDent_22 : decode cX1_writeDent 22 = .ok (.iconst 3, 1) := by decide +kernel
theorem dX1_writeDent_23 : decode cX1_writeDent 23 = .ok (.iload_n 3, 1) := by decide +kernel
theorem dX1_writeDent_24 : decode cX1_writeDent 24 = .ok (.imul, 1) := by decide +kernel
theorem dX1_writeDent_25 : decode cX1_writeDent 25 = .ok (.iload_n 1, 1) := by decide +kernel
theorem dX1_writeDent_26 : decode cX1_writeDent 26 = .ok (.iastore, 1) := by decide +kernel
theorem dX1_writeDent_27 : decode cX1_writeDent 27 = .ok (.aload_n 0, 1) := by decide +kernel
theorem dX1_writeDent_28 : decode cX1_writeDent 28 = .ok (.getfield 35, 3) := by decide +kernel
theorem dX1_writeDent_31 : decode cX1_writeDent 31 = .ok (.iconst 3, 1) := by decide +kernel
theorem dX1_writeDent_32 : decode cX1_writeDent 32 = .ok (.iload_n 3, 1) := by decide +kernel
theorem dX1_writeDent_33 : decode cX1_writeDent 33 = .ok (.imul, 1) := by decide +kernel
theorem dX1_writeDent_34 : decode cX1_writeDent 34 = .ok (.iconst 1, 1) := by decide +kernel
theorem dX1_writeDent_35 : decode cX1_writeDent 35 = .ok (.iadd, 1) := by decide +kernel
theorem dX1_writeDent_36 : decode cX1_writeDent 36 = .ok (.aload_n 0, 1) := by decide +kernel
theorem dX1_writeDent_37 : decode cX1_writeDent 37 = .ok (.getfield 12, 3) := by decide +kernel
theorem dX1_writeDent_40 : decode cX1_writeDent 40 = .ok (.invokevirtual 82, 3) := by decide +kernel
theorem dX1_writeDent_43 : decode cX1_writeDent 43 = .ok (.iastore, 1) := by decide +kernel
theorem dX1_writeDent_44 : decode cX1_writeDent 44 = .ok (.aload_n 0, 1) := by decide +kernel
theorem dX1_writeDent_45 : decode cX1_writeDent 45 = .ok (.getfield 35, 3) := by decide +kernel
theorem dX1_writeDent_48 : decode cX1_writeDent 48 = .ok (.iconst 3, 1) := by decide +kernel
theorem dX1_writeDent_49 : decode cX1_writeDent 49 = .ok (.iload_n 3, 1) := by decide +kernel
theorem dX1_writeDent_50 : decode cX1_writeDent 50 = .ok (.imul, 1) := by decide +kernel
theorem dX1_writeDent_51 : decode cX1_writeDent 51 = .ok (.iconst 2, 1) := by decide +kernel
theorem dX1_writeDent_52 : decode cX1_writeDent 52 = .ok (.iadd, 1) := by decide +kernel
theorem dX1_writeDent_53 : decode cX1_writeDent 53 = .ok (.iload_n 2, 1) := by decide +kernel
theorem dX1_writeDent_54 : decode cX1_writeDent 54 = .ok (.iastore, 1) := by decide +kernel
theorem dX1_writeDent_55 : decode cX1_writeDent 55 = .ok (.aload_n 0, 1) := by decide +kernel
theorem dX1_writeDent_56 : decode cX1_writeDent 56 = .ok (.getfield 12, 3) := by decide +kernel
theorem dX1_writeDent_59 : decode cX1_writeDent 59 = .ok (.iload_n 3, 1) := by decide +kernel
theorem dX1_writeDent_60 : decode cX1_writeDent 60 = .ok (.iconst 1, 1) := by decide +kernel
theorem dX1_writeDent_61 : decode cX1_writeDent 61 = .ok (.iadd, 1) := by decide +kernel
theorem dX1_writeDent_62 : decode cX1_writeDent 62 = .ok (.putfield 79, 3) := by decide +kernel
theorem dX1_writeDent_65 : decode cX1_writeDent 65 = .ok (.return_, 1) := by decide +kernel
theorem dX1_contradict_0 : decode cX1_contradict 0 = .ok (.iconst 3, 1) := by decide +kernel
theorem dX1_contradict_1 : decode cX1_contradict 1 = .ok (.iload_n 1, 1) := by decide +kernel
theorem dX1_contradict_2 : decode cX1_contradict 2 = .ok (.imul, 1) := by decide +kernel
theorem dX1_contradict_3 : decode cX1_contradict 3 = .ok (.istore_n 3, 1) := by decide +kernel
theorem dX1_contradict_4 : decode cX1_contradict 4 = .ok (.iconst 3, 1) := by decide +kernel
theorem dX1_contradict_5 : decode cX1_contradict 5 = .ok (.iload_n 2, 1) := by decide +kernel
theorem dX1_contradict_6 : decode cX1_contradict 6 = .ok (.imul, 1) := by decide +kernel
theorem dX1_contradict_7 : decode cX1_contradict 7 = .ok (.istore 4, 2) := by decide +kernel
theorem dX1_contradict_9 : decode cX1_contradict 9 = .ok (.aload_n 0, 1) := by decide +kernel
theorem dX1_contradict_10 : decode cX1_contradict 10 = .ok (.getfield 35, 3) := by decide +kernel
theorem dX1_contradict_13 : decode cX1_contradict 13 = .ok (.iload_n 3, 1) := by decide +kernel
theorem dX1_contradict_14 : decode cX1_contradict 14 = .ok (.iaload, 1) := by decide +kernel
theorem dX1_contradict_15 : decode cX1_contradict 15 = .ok (.aload_n 0, 1) := by decide +kernel
theorem dX1_contradict_16 : decode cX1_contradict 16 = .ok (.getfield 35, 3) := by decide +kernel
theorem dX1_contradict_19 : decode cX1_contradict 19 = .ok (.iload 4, 2) := by decide +kernel
theorem dX1_contradict_21 : decode cX1_contradict 21 = .ok (.iaload, 1) := by decide +kernel
theorem dX1_contradict_22 : decode cX1_contradict 22 = .ok (.if_icmp .ne 47, 3) := by decide +kernel
theorem dX1_contradict_25 : decode cX1_contradict 25 = .ok (.aload_n 0, 1) := by decide +kernel
theorem dX1_contradict_26 : decode cX1_contradict 26 = .ok (.getfield 35, 3) := by decide +kernel
theorem dX1_contradict_29 : decode cX1_contradict 29 = .ok (.iload_n 3, 1) := by decide +kernel
theorem dX1_contradict_30 : decode cX1_contradict 30 = .ok (.iconst 1, 1) := by decide +kernel
theorem dX1_contradict_31 : decode cX1_contradict 31 = .ok (.iadd, 1) := by decide +kernel
theorem dX1_contradict_32 : decode cX1_contradict 32 = .ok (.iaload, 1) := by decide +kernel
theorem dX1_contradict_33 : decode cX1_contradict 33 = .ok (.aload_n 0, 1) := by decide +kernel
theorem dX1_contradict_34 : decode cX1_contradict 34 = .ok (.getfield 35, 3) := by decide +kernel
theorem dX1_contradict_37 : decode cX1_contradict 37 = .ok (.iload 4, 2) := by decide +kernel
theorem dX1_contradict_39 : decode cX1_contradict 39 = .ok (.iconst 1, 1) := by decide +kernel
theorem dX1_contradict_40 : decode cX1_contradict 40 = .ok (.iadd, 1) := by decide +kernel
theorem dX1_contradict_41 : decode cX1_contradict 41 = .ok (.iaload, 1) := by decide +kernel
theorem dX1_contradict_42 : decode cX1_contradict 42 = .ok (.if_icmp .ne 27, 3) := by decide +kernel
theorem dX1_contradict_45 : decode cX1_contradict 45 = .ok (.aload_n 0, 1) := by decide +kernel
theorem dX1_contradict_46 : decode cX1_contradict 46 = .ok (.getfield 35, 3) := by decide +kernel
theorem dX1_contradict_49 : decode cX1_contradict 49 = .ok (.iload_n 3, 1) := by decide +kernel
theorem dX1_contradict_50 : decode cX1_contradict 50 = .ok (.iconst 2, 1) := by decide +kernel
theorem dX1_contradict_51 : decode cX1_contradict 51 = .ok (.iadd, 1) := by decide +kernel
theorem dX1_contradict_52 : decode cX1_contradict 52 = .ok (.iaload, 1) := by decide +kernel
theorem dX1_contradict_53 : decode cX1_contradict 53 = .ok (.aload_n 0, 1) := by decide +kernel
theorem dX1_contradict_54 : decode cX1_contradict 54 = .ok (.getfield 35, 3) := by decide +kernel
theorem dX1_contradict_57 : decode cX1_contradict 57 = .ok (.iload 4, 2) := by decide +kernel
theorem dX1_contradict_59 : decode cX1_contradict 59 = .ok (.iconst 2, 1) := by decide +kernel
theorem dX1_contradict_60 : decode cX1_contradict 60 = .ok (.iadd, 1) := by decide +kernel
theorem dX1_contradict_61 : decode cX1_contradict 61 = .ok (.iaload, 1) := by decide +kernel
theorem dX1_contradict_62 : decode cX1_contradict 62 = .ok (.if_icmp .eq 7, 3) := by decide +kernel
theorem dX1_contradict_65 : decode cX1_contradict 65 = .ok (.iconst 1, 1) := by decide +kernel
theorem dX1_contradict_66 : decode cX1_contradict 66 = .ok (.goto 4, 3) := by decide +kernel
theorem dX1_contradict_69 : decode cX1_contradict 69 = .ok (.iconst 0, 1) := by decide +kernel
theorem dX1_contradict_70 : decode cX1_contradict 70 = .ok (.ireturn, 1) := by decide +kernel
theorem dX1_untold_0 : decode cX1_untold 0 = .ok (.aload_n 0, 1) := by decide +kernel
theorem dX1_untold_1 : decode cX1_untold 1 = .ok (.getfield 12, 3) := by decide +kernel
theorem dX1_untold_4 : decode cX1_untold 4 = .ok (.getfield 86, 3) := by decide +kernel
theorem dX1_untold_7 : decode cX1_untold 7 = .ok (.iload_n 1, 1) := by decide +kernel
theorem dX1_untold_8 : decode cX1_untold 8 = .ok (.iaload, 1) := by decide +kernel
theorem dX1_untold_9 : decode cX1_untold 9 = .ok (.aload_n 0, 1) := by decide +kernel
theorem dX1_untold_10 : decode cX1_untold 10 = .ok (.getfield 45, 3) := by decide +kernel
theorem dX1_untold_13 : decode cX1_untold 13 = .ok (.iload_n 1, 1) := by decide +kernel
theorem dX1_untold_14 : decode cX1_untold 14 = .ok (.iaload, 1) := by decide +kernel
theorem dX1_untold_15 : decode cX1_untold 15 = .ok (.isub, 1) := by decide +kernel
theorem dX1_untold_16 : decode cX1_untold 16 = .ok (.ireturn, 1) := by decide +kernel
theorem dX1_forgetTold_0 : decode cX1_forgetTold 0 = .ok (.iconst 0, 1) := by decide +kernel
theorem dX1_forgetTold_1 : decode cX1_forgetTold 1 = .ok (.istore_n 1, 1) := by decide +kernel
theorem dX1_forgetTold_2 : decode cX1_forgetTold 2 = .ok (.iload_n 1, 1) := by decide +kernel
theorem dX1_forgetTold_3 : decode cX1_forgetTold 3 = .ok (.aload_n 0, 1) := by decide +kernel
theorem dX1_forgetTold_4 : decode cX1_forgetTold 4 = .ok (.getfield 45, 3) := by decide +kernel
theorem dX1_forgetTold_7 : decode cX1_forgetTold 7 = .ok (.arraylength, 1) := by decide +kernel
theorem dX1_forgetTold_8 : decode cX1_forgetTold 8 = .ok (.if_icmp .ge 16, 3) := by decide +kernel
theorem dX1_forgetTold_11 : decode cX1_forgetTold 11 = .ok (.aload_n 0, 1) := by decide +kernel
theorem dX1_forgetTold_12 : decode cX1_forgetTold 12 = .ok (.getfield 45, 3) := by decide +kernel
theorem dX1_forgetTold_15 : decode cX1_forgetTold 15 = .ok (.iload_n 1, 1) := by decide +kernel
theorem dX1_forgetTold_16 : decode cX1_forgetTold 16 = .ok (.iconst 0, 1) := by decide +kernel
theorem dX1_forgetTold_17 : decode cX1_forgetTold 17 = .ok (.iastore, 1) := by decide +kernel
theorem dX1_forgetTold_18 : decode cX1_forgetTold 18 = .ok (.iinc 1 1, 3) := by decide +kernel
theorem dX1_forgetTold_21 : decode cX1_forgetTold 21 = .ok (.goto (-19), 3) := by decide +kernel
theorem dX1_forgetTold_24 : decode cX1_forgetTold 24 = .ok (.aload_n 0, 1) := by decide +kernel
theorem dX1_forgetTold_25 : decode cX1_forgetTold 25 = .ok (.iconst 0, 1) := by decide +kernel
theorem dX1_forgetTold_26 : decode cX1_forgetTold 26 = .ok (.putfield 70, 3) := by decide +kernel
theorem dX1_forgetTold_29 : decode cX1_forgetTold 29 = .ok (.return_, 1) := by decide +kernel
