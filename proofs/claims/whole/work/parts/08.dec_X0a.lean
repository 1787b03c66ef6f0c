theorem dX0_init_0 : decode cX0_init 0 = .ok (.aload_n 0, 1) := by decide +kernel
theorem dX0_init_1 : decode cX0_init 1 = .ok (.invokespecial 3, 3) := by decide +kernel
theorem dX0_init_4 : decode cX0_init 4 = .ok (.aload_n 0, 1) := by decide +kernel
theorem dX0_init_5 : decode cX0_init 5 = .ok (.new 9, 3) := by decide +kernel
theorem dX0_init_8 : decode cX0_init 8 = .ok (.dup, 1) := by decide +kernel
theorem dX0_init_9 : decode cX0_init 9 = .ok (.invokespecial 11, 3) := by decide +kernel
theorem dX0_init_12 : decode cX0_init 12 = .ok (.putfield 12, 3) := by decide +kernel
theorem dX0_init_15 : decode cX0_init 15 = .ok (.aload_n 0, 1) := by decide +kernel
theorem dX0_init_16 : decode cX0_init 16 = .ok (.iconst 4, 1) := by decide +kernel
theorem dX0_init_17 : decode cX0_init 17 = .ok (.anewarray 18, 3) := by decide +kernel
theorem dX0_init_20 : decode cX0_init 20 = .ok (.putfield 20, 3) := by decide +kernel
theorem dX0_init_23 : decode cX0_init 23 = .ok (.iconst 0, 1) := by decide +kernel
theorem dX0_init_24 : decode cX0_init 24 = .ok (.istore_n 1, 1) := by decide +kernel
theorem dX0_init_25 : decode cX0_init 25 = .ok (.iload_n 1, 1) := by decide +kernel
theorem dX0_init_26 : decode cX0_init 26 = .ok (.aload_n 0, 1) := by decide +kernel
theorem dX0_init_27 : decode cX0_init 27 = .ok (.getfield 20, 3) := by decide +kernel
theorem dX0_init_30 : decode cX0_init 30 = .ok (.arraylength, 1) := by decide +kernel
theorem dX0_init_31 : decode cX0_init 31 = .ok (.if_icmp .ge 22, 3) := by decide +kernel
theorem dX0_init_34 : decode cX0_init 34 = .ok (.aload_n 0, 1) := by decide +kernel
theorem dX0_init_35 : decode cX0_init 35 = .ok (.getfield 20, 3) := by decide +kernel
theorem dX0_init_38 : decode cX0_init 38 = .ok (.iload_n 1, 1) := by decide +kernel
theorem dX0_init_39 : decode cX0_init 39 = .ok (.new 18, 3) := by decide +kernel
theorem dX0_init_42 : decode cX0_init 42 = .ok (.dup, 1) := by decide +kernel
theorem dX0_init_43 : decode cX0_init 43 = .ok (.invokespecial 24, 3) := by decide +kernel
theorem dX0_init_46 : decode cX0_init 46 = .ok (.aastore, 1) := by decide +kernel
theorem dX0_init_47 : decode cX0_init 47 = .ok (.iinc 1 1, 3) := by decide +kernel
theorem dX0_init_50 : decode cX0_init 50 = .ok (.goto (-25), 3) := by decide +kernel
theorem dX0_init_53 : decode cX0_init 53 = .ok (.aload_n 0, 1) := by decide +kernel
theorem dX0_init_54 : decode cX0_init 54 = .ok (.bipush 12, 2) := by decide +kernel
theorem dX0_init_56 : decode cX0_init 56 = .ok (.newarray .int, 2) := by decide +kernel
theorem dX0_init_58 : decode cX0_init 58 = .ok (.putfield 25, 3) := by decide +kernel
theorem dX0_init_61 : decode cX0_init 61 = .ok (.aload_n 0, 1) := by decide +kernel
theorem dX0_init_62 : decode cX0_init 62 = .ok (.bipush 64, 2) := by decide +kernel
theorem dX0_init_64 : decode cX0_init 64 = .ok (.newarray .int, 2) := by decide +kernel
theorem dX0_init_66 : decode cX0_init 66 = .ok (.putfield 29, 3) := by decide +kernel
theorem dX0_init_69 : decode cX0_init 69 = .ok (.return_, 1) := by decide +kernel
theorem dX0_spoonful_0 : decode cX0_spoonful 0 = .ok (.aload_n 1, 1) := by decide +kernel
theorem dX0_spoonful_1 : decode cX0_spoonful 1 = .ok (.getfield 32, 3) := by decide +kernel
theorem dX0_spoonful_4 : decode cX0_spoonful 4 = .ok (.iload_n 2, 1) := by decide +kernel
theorem dX0_spoonful_5 : decode cX0_spoonful 5 = .ok (.iaload, 1) := by decide +kernel
theorem dX0_spoonful_6 : decode cX0_spoonful 6 = .ok (.istore 4, 2) := by decide +kernel
theorem dX0_spoonful_8 : decode cX0_spoonful 8 = .ok (.iload 4, 2) := by decide +kernel
theorem dX0_spoonful_10 : decode cX0_spoonful 10 = .ok (.iconst 2, 1) := by decide +kernel
theorem dX0_spoonful_11 : decode cX0_spoonful 11 = .ok (.if_icmp .ne 5, 3) := by decide +kernel
theorem dX0_spoonful_14 : decode cX0_spoonful 14 = .ok (.iconst 0, 1) := by decide +kernel
theorem dX0_spoonful_15 : decode cX0_spoonful 15 = .ok (.ireturn, 1) := by decide +kernel
theorem dX0_spoonful_16 : decode cX0_spoonful 16 = .ok (.aload_n 1, 1) := by decide +kernel
theorem dX0_spoonful_17 : decode cX0_spoonful 17 = .ok (.getfield 37, 3) := by decide +kernel
theorem dX0_spoonful_20 : decode cX0_spoonful 20 = .ok (.iconst 2, 1) := by decide +kernel
theorem dX0_spoonful_21 : decode cX0_spoonful 21 = .ok (.iload 4, 2) := by decide +kernel
theorem dX0_spoonful_23 : decode cX0_spoonful 23 = .ok (.imul, 1) := by decide +kernel
theorem dX0_spoonful_24 : decode cX0_spoonful 24 = .ok (.iload_n 3, 1) := by decide +kernel
theorem dX0_spoonful_25 : decode cX0_spoonful 25 = .ok (.iadd, 1) := by decide +kernel
theorem dX0_spoonful_26 : decode cX0_spoonful 26 = .ok (.iaload, 1) := by decide +kernel
theorem dX0_spoonful_27 : decode cX0_spoonful 27 = .ok (.istore 5, 2) := by decide +kernel
theorem dX0_spoonful_29 : decode cX0_spoonful 29 = .ok (.iload 5, 2) := by decide +kernel
theorem dX0_spoonful_31 : decode cX0_spoonful 31 = .ok (.iload 5, 2) := by decide +kernel
theorem dX0_spoonful_33 : decode cX0_spoonful 33 = .ok (.iconst 1, 1) := by decide +kernel
theorem dX0_spoonful_34 : decode cX0_spoonful 34 = .ok (.if_icmp .ge 7, 3) := by decide +kernel
theorem dX0_spoonful_37 : decode cX0_spoonful 37 = .ok (.iconst 0, 1) := by decide +kernel
theorem dX0_spoonful_38 : decode cX0_spoonful 38 = .ok (.goto 9, 3) := by decide +kernel
theorem dX0_spoonful_41 : decode cX0_spoonful 41 = .ok (.aload_n 0, 1) := by decide +kernel
theorem dX0_spoonful_42 : decode cX0_spoonful 42 = .ok (.aload_n 1, 1) := by decide +kernel
theorem dX0_spoonful_43 : decode cX0_spoonful 43 = .ok (.iload_n 2, 1) := by decide +kernel
theorem dX0_spoonful_44 : decode cX0_spoonful 44 = .ok (.invokevirtual 40, 3) := by decide +kernel
theorem dX0_spoonful_47 : decode cX0_spoonful 47 = .ok (.invokestatic 44, 3) := by decide +kernel
theorem dX0_spoonful_50 : decode cX0_spoonful 50 = .ok (.istore 6, 2) := by decide +kernel
theorem dX0_spoonful_52 : decode cX0_spoonful 52 = .ok (.iload 6, 2) := by decide +kernel
theorem dX0_spoonful_54 : decode cX0_spoonful 54 = .ok (.iconst 1, 1) := by decide +kernel
theorem dX0_spoonful_55 : decode cX0_spoonful 55 = .ok (.if_icmp .ge 7, 3) := by decide +kernel
theorem dX0_spoonful_58 : decode cX0_spoonful 58 = .ok (.iconst 0, 1) := by decide +kernel
theorem dX0_spoonful_59 : decode cX0_spoonful 59 = .ok (.goto 15, 3) := by decide +kernel
theorem dX0_spoonful_62 : decode cX0_spoonful 62 = .ok (.iload 6, 2) := by decide +kernel
theorem dX0_spoonful_64 : decode cX0_spoonful 64 = .ok (.aload_n 0, 1) := by decide +kernel
theorem dX0_spoonful_65 : decode cX0_spoonful 65 = .ok (.aload_n 1, 1) := by decide +kernel
theorem dX0_spoonful_66 : decode cX0_spoonful 66 = .ok (.iload_n 2, 1) := by decide +kernel
theorem dX0_spoonful_67 : decode cX0_spoonful 67 = .ok (.iload_n 3, 1) := by decide +kernel
theorem dX0_spoonful_68 : decode cX0_spoonful 68 = .ok (.invokevirtual 50, 3) := by decide +kernel
theorem dX0_spoonful_71 : decode cX0_spoonful 71 = .ok (.invokestatic 44, 3) := by decide +kernel
theorem dX0_spoonful_74 : decode cX0_spoonful 74 = .ok (.ireturn, 1) := by decide +kernel
theorem dX0_roomIn_0 : decode cX0_roomIn 0 = .ok (.aload_n 0, 1) := by decide +kernel
theorem dX0_roomIn_1 : decode cX0_roomIn 1 = .ok (.invokevirtual 54, 3) := by decide +kernel
theorem dX0_roomIn_4 : decode cX0_roomIn 4 = .ok (.astore_n 3, 1) := by decide +kernel
theorem dX0_roomIn_5 : decode cX0_roomIn 5 = .ok (.bipush 20, 2) := by decide +kernel
theorem dX0_roomIn_7 : decode cX0_roomIn 7 = .ok (.aload_n 0, 1) := by decide +kernel
theorem dX0_roomIn_8 : decode cX0_roomIn 8 = .ok (.getfield 12, 3) := by decide +kernel
theorem dX0_roomIn_11 : decode cX0_roomIn 11 = .ok (.getfield 58, 3) := by decide +kernel
theorem dX0_roomIn_14 : decode cX0_roomIn 14 = .ok (.iload_n 2, 1) := by decide +kernel
theorem dX0_roomIn_15 : decode cX0_roomIn 15 = .ok (.iaload, 1) := by decide +kernel
theorem dX0_roomIn_16 : decode cX0_roomIn 16 = .ok (.imul, 1) := by decide +kernel
theorem dX0_roomIn_17 : decode cX0_roomIn 17 = .ok (.istore 4, 2) := by decide +kernel
theorem dX0_roomIn_19 : decode cX0_roomIn 19 = .ok (.aload_n 3, 1) := by decide +kernel
theorem dX0_roomIn_20 : decode cX0_roomIn 20 = .ok (.ifnull 35, 3) := by decide +kernel
theorem dX0_roomIn_23 : decode cX0_roomIn 23 = .ok (.aload_n 3, 1) := by decide +kernel
theorem dX0_roomIn_24 : decode cX0_roomIn 24 = .ok (.iconst 1, 1) := by decide +kernel
theorem dX0_roomIn_25 : decode cX0_roomIn 25 = .ok (.invokevirtual 61, 3) := by decide +kernel
theorem dX0_roomIn_28 : decode cX0_roomIn 28 = .ok (.ifCond .eq 27, 3) := by decide +kernel
theorem dX0_roomIn_31 : decode cX0_roomIn 31 = .ok (.aload_n 0, 1) := by decide +kernel
theorem dX0_roomIn_32 : decode cX0_roomIn 32 = .ok (.aload_n 1, 1) := by decide +kernel
theorem dX0_roomIn_33 : decode cX0_roomIn 33 = .ok (.iload_n 2, 1) := by decide +kernel
theorem dX0_roomIn_34 : decode cX0_roomIn 34 = .ok (.invokevirtual 65, 3) := by decide +kernel
theorem dX0_roomIn_37 : decode cX0_roomIn 37 = .ok (.iconst 0, 1) := by decide +kernel
theorem dX0_roomIn_38 : decode cX0_roomIn 38 = .ok (.sipush 9999, 3) := by decide +kernel
theorem dX0_roomIn_41 : decode cX0_roomIn 41 = .ok (.aload_n 0, 1) := by decide +kernel
theorem dX0_roomIn_42 : decode cX0_roomIn 42 = .ok (.aload_n 3, 1) := by decide +kernel
theorem dX0_roomIn_43 : decode cX0_roomIn 43 = .ok (.iconst 1, 1) := by decide +kernel
theorem dX0_roomIn_44 : decode cX0_roomIn 44 = .ok (.invokevirtual 69, 3) := by decide +kernel
theorem dX0_roomIn_47 : decode cX0_roomIn 47 = .ok (.invokestatic 44, 3) := by decide +kernel
theorem dX0_roomIn_50 : decode cX0_roomIn 50 = .ok (.invokestatic 73, 3) := by decide +kernel
theorem dX0_roomIn_53 : decode cX0_roomIn 53 = .ok (.istore 4, 2) := by decide +kernel
theorem dX0_roomIn_55 : decode cX0_roomIn 55 = .ok (.iconst 0, 1) := by decide +kernel
theorem dX0_roomIn_56 : decode cX0_roomIn 56 = .ok (.iload 4, 2) := by decide +kernel
theorem dX0_roomIn_58 : decode cX0_roomIn 58 = .ok (.aload_n 1, 1) := by decide +kernel
theorem dX0_roomIn_59 : decode cX0_roomIn 59 = .ok (.getfield 76, 3) := by decide +kernel
theorem dX0_roomIn_62 : decode cX0_roomIn 62 = .ok (.iload_n 2, 1) := by decide +kernel
theorem dX0_roomIn_63 : decode cX0_roomIn 63 = .ok (.iaload, 1) := by decide +kernel
theorem dX0_roomIn_64 : decode cX0_roomIn 64 = .ok (.isub, 1) := by decide +kernel
theorem dX0_roomIn_65 : decode cX0_roomIn 65 = .ok (.invokestatic 73, 3) := by decide +kernel
theorem dX0_roomIn_68 : decode cX0_roomIn 68 = .ok (.ireturn, 1) := by decide +kernel
theorem dX0_isGuilty_0 : decode cX0_isGuilty 0 = .ok (.aload_n 0, 1) := by decide +kernel
theorem dX0_isGuilty_1 : decode cX0_isGuilty 1 = .ok (.invokevirtual 54, 3) := by decide +kernel
theorem dX0_isGuilty_4 : decode cX0_isGuilty 4 = .ok (.astore_n 3, 1) := by decide +kernel
theorem dX0_isGuilty_5 : decode cX0_isGuilty 5 = .ok (.aload_n 1, 1) := by decide +kernel
theorem dX0_isGuilty_6 : decode cX0_isGuilty 6 = .ok (.invokevirtual 79, 3) := by decide +kernel
theorem dX0_isGuilty_9 : decode cX0_isGuilty 9 = .ok (.istore 4, 2) := by decide +kernel
theorem dX0_isGuilty_11 : decode cX0_isGuilty 11 = .ok (.aload_n 3, 1) := by decide +kernel
theorem dX0_isGuilty_12 : decode cX0_isGuilty 12 = .ok (.ifnull 11, 3) := by decide +kernel
theorem dX0_isGuilty_15 : decode cX0_isGuilty 15 = .ok (.aload_n 3, 1) := by decide +kernel
theorem dX0_isGuilty_16 : decode cX0_isGuilty 16 = .ok (.iconst 2, 1) := by decide +kernel
theorem dX0_isGuilty_17 : decode cX0_isGuilty 17 = .ok (.invokevirtual 61, 3) := by decide +kernel
theorem dX0_isGuilty_20 : decode cX0_isGuilty 20 = .ok (.ifCond .ne 31, 3) := by decide +kernel
theorem dX0_isGuilty_23 : decode cX0_isGuilty 23 = .ok (.iload_n 2, 1) := by decide +kernel
theorem dX0_isGuilty_24 : decode cX0_isGuilty 24 = .ok (.ifCond .ne 16, 3) := by decide +kernel
theorem dX0_isGuilty_27 : decode cX0_isGuilty 27 = .ok (.iload 4, 2) := by decide +kernel
theorem dX0_isGuilty_29 : decode cX0_isGuilty 29 = .ok (.ifCond .ge 7, 3) := by decide +kernel
theorem dX0_isGuilty_32 : decode cX0_isGuilty 32 = .ok (.iconst 1, 1) := by decide +kernel
theorem dX0_isGuilty_33 : decode cX0_isGuilty 33 = .ok (.goto 17, 3) := by decide +kernel
theorem dX0_isGuilty_36 : decode cX0_isGuilty 36 = .ok (.iconst 0, 1) := by decide +kernel
theorem dX0_isGuilty_37 : decode cX0_isGuilty 37 = .ok (.goto 13, 3) := by decide +kernel
theorem dX0_isGuilty_40 : decode cX0_isGuilty 40 = .ok (.iload 4, 2) := by decide +kernel
theorem dX0_isGuilty_42 : decode cX0_isGuilty 42 = .ok (.ifCond .le 7, 3) := by decide +kernel
theorem dX0_isGuilty_45 : decode cX0_isGuilty 45 = .ok (.iconst 1, 1) := by decide +kernel
theorem dX0_isGuilty_46 : decode cX0_isGuilty 46 = .ok (.goto 4, 3) := by decide +kernel
theorem dX0_isGuilty_49 : decode cX0_isGuilty 49 = .ok (.iconst 0, 1) := by decide +kernel
theorem dX0_isGuilty_50 : decode cX0_isGuilty 50 = .ok (.ireturn, 1) := by decide +kernel
theorem dX0_isGuilty_51 : decode cX0_isGuilty 51 = .ok (.aload_n 0, 1) := by decide +kernel
theorem dX0_isGuilty_52 : decode cX0_isGuilty 52 = .ok (.getfield 25, 3) := by decide +kernel
theorem dX0_isGuilty_55 : decode cX0_isGuilty 55 = .ok (.bipush 7, 2) := by decide +kernel
theorem dX0_isGuilty_57 : decode cX0_isGuilty 57 = .ok (.iload_n 2, 1) := by decide +kernel
theorem dX0_isGuilty_58 : decode cX0_isGuilty 58 = .ok (.iastore, 1) := by decide +kernel
theorem dX0_isGuilty_59 : decode cX0_isGuilty 59 = .ok (.aload_n 0, 1) := by decide +kernel
theorem dX0_isGuilty_60 : decode cX0_isGuilty 60 = .ok (.getfield 25, 3) := by decide +kernel
theorem dX0_isGuilty_63 : decode cX0_isGuilty 63 = .ok (.bipush 8, 2) := by decide +kernel
theorem dX0_isGuilty_65 : decode cX0_isGuilty 65 = .ok (.iload 4, 2) := by decide +kernel
theorem dX0_isGuilty_67 : decode cX0_isGuilty 67 = .ok (.iastore, 1) := by decide +kernel
theorem dX0_isGuilty_68 : decode cX0_isGuilty 68 = .ok (.aload_n 0, 1) := by decide +kernel
theorem dX0_isGuilty_69 : decode cX0_isGuilty 69 = .ok (.getfield 25, 3) := by decide +kernel
theorem dX0_isGuilty_72 : decode cX0_isGuilty 72 = .ok (.bipush 9, 2) := by decide +kernel
theorem dX0_isGuilty_74 : decode cX0_isGuilty 74 = .ok (.aload_n 1, 1) := by decide +kernel
theorem dX0_isGuilty_75 : decode cX0_isGuilty 75 = .ok (.getfield 37, 3) := by decide +kernel
theorem dX0_isGuilty_78 : decode cX0_isGuilty 78 = .ok (.iconst 2, 1) := by decide +kernel
theorem dX0_isGuilty_79 : decode cX0_isGuilty 79 = .ok (.iload_n 2, 1) := by decide +kernel
theorem dX0_isGuilty_80 : decode cX0_isGuilty 80 = .ok (.imul, 1) := by decide +kernel
theorem dX0_isGuilty_81 : decode cX0_isGuilty 81 = .ok (.iaload, 1) := by decide +kernel
theorem dX0_isGuilty_82 : decode cX0_isGuilty 82 = .ok (.iastore, 1) := by decide +kernel
theorem dX0_isGuilty_83 : decode cX0_isGuilty 83 = .ok (.aload_n 0, 1) := by decide +kernel
theorem dX0_isGuilty_84 : decode cX0_isGuilty 84 = .ok (.getfield 25, 3) := by decide +kernel
theorem dX0_isGuilty_87 : decode cX0_isGuilty 87 = .ok (.bipush 10, 2) := by decide +kernel
theorem dX0_isGuilty_89 : decode cX0_isGuilty 89 = .ok (.aload_n 1, 1) := by decide +kernel
theorem dX0_isGuilty_90 : decode cX0_isGuilty 90 = .ok (.getfield 37, 3) := by decide +kernel
theorem dX0_isGuilty_93 : decode cX0_isGuilty 93 = .ok (.iconst 2, 1) := by decide +kernel
theorem dX0_isGuilty_94 : decode cX0_isGuilty 94 = .ok (.iload_n 2, 1) := by decide +kernel
theorem dX0_isGuilty_95 : decode cX0_isGuilty 95 = .ok (.imul, 1) := by decide +kernel
theorem dX0_isGuilty_96 : decode cX0_isGuilty 96 = .ok (.iconst 1, 1) := by decide +kernel
theorem dX0_isGuilty_97 : decode cX0_isGuilty 97 = .ok (.iadd, 1) := by decide +kernel
theorem dX0_isGuilty_98 : decode cX0_isGuilty 98 = .ok (.iaload, 1) := by decide +kernel
theorem dX0_isGuilty_99 : decode cX0_isGuilty 99 = .ok (.iastore, 1) := by decide +kernel
theorem dX0_isGuilty_100 : decode cX0_isGuilty 100 = .ok (.aload_n 0, 1) := by decide +kernel
theorem dX0_isGuilty_101 : decode cX0_isGuilty 101 = .ok (.getfield 25, 3) := by decide +kernel
theorem dX0_isGuilty_104 : decode cX0_isGuilty 104 = .ok (.bipush 11, 2) := by decide +kernel
theorem dX0_isGuilty_106 : decode cX0_isGuilty 106 = .ok (.aload_n 1, 1) := by decide +kernel
theorem dX0_isGuilty_107 : decode cX0_isGuilty 107 = .ok (.getfield 83, 3) := by decide +kernel
theorem dX0_isGuilty_110 : decode cX0_isGuilty 110 = .ok (.iastore, 1) := by decide +kernel
theorem dX0_isGuilty_111 : decode cX0_isGuilty 111 = .ok (.aload_n 0, 1) := by decide +kernel
theorem dX0_isGuilty_112 : decode cX0_isGuilty 112 = .ok (.aload_n 3, 1) := by decide +kernel
theorem dX0_isGuilty_113 : decode cX0_isGuilty 113 = .ok (.iconst 2, 1) := by decide +kernel
theorem dX0_isGuilty_114 : decode cX0_isGuilty 114 = .ok (.invokevirtual 69, 3) := by decide +kernel
theorem dX0_isGuilty_117 : decode cX0_isGuilty 117 = .ok (.ifCond .eq 7, 3) := by decide +kernel
theorem dX0_isGuilty_120 : decode cX0_isGuilty 120 = .ok (.iconst 1, 1) := by decide +kernel
theorem dX0_isGuilty_121 : decode cX0_isGuilty 121 = .ok (.goto 4, 3) := by decide +kernel
theorem dX0_isGuilty_124 : decode cX0_isGuilty 124 = .ok (.iconst 0, 1) := by decide +kernel
theorem dX0_isGuilty_125 : decode cX0_isGuilty 125 = .ok (.ireturn, 1) := by decide +kernel
theorem dX0_biteOf_0 : decode cX0_biteOf 0 = .ok (.aload_n 0, 1) := by decide +kernel
theorem dX0_biteOf_1 : decode cX0_biteOf 1 = .ok (.invokevirtual 54, 3) := by decide +kernel
theorem dX0_biteOf_4 : decode cX0_biteOf 4 = .ok (.astore 4, 2) := by decide +kernel
theorem dX0_biteOf_6 : decode cX0_biteOf 6 = .ok (.aload 4, 2) := by decide +kernel
theorem dX0_biteOf_8 : decode cX0_biteOf 8 = .ok (.ifnull 12, 3) := by decide +kernel
theorem dX0_biteOf_11 : decode cX0_biteOf 11 = .ok (.aload 4, 2) := by decide +kernel
theorem dX0_biteOf_13 : decode cX0_biteOf 13 = .ok (.iconst 0, 1) := by decide +kernel
theorem dX0_biteOf_14 : decode cX0_biteOf 14 = .ok (.invokevirtual 61, 3) := by decide +kernel
theorem dX0_biteOf_17 : decode cX0_biteOf 17 = .ok (.ifCond .ne 15, 3) := by decide +kernel
theorem dX0_biteOf_20 : decode cX0_biteOf 20 = .ok (.aload_n 0, 1) := by decide +kernel
theorem dX0_biteOf_21 : decode cX0_biteOf 21 = .ok (.getfield 12, 3) := by decide +kernel
theorem dX0_biteOf_24 : decode cX0_biteOf 24 = .ok (.getfield 87, 3) := by decide +kernel
theorem dX0_biteOf_27 : decode cX0_biteOf 27 = .ok (.iload_n 2, 1) := by decide +kernel
theorem dX0_biteOf_28 : decode cX0_biteOf 28 = .ok (.iaload, 1) := by decide +kernel
theorem dX0_biteOf_29 : decode cX0_biteOf 29 = .ok (.iconst 1, 1) := by decide +kernel
theorem dX0_biteOf_30 : decode cX0_biteOf 30 = .ok (.iadd, 1) := by decide +kernel
theorem dX0_biteOf_31 : decode cX0_biteOf 31 = .ok (.ireturn, 1) := by decide +kernel
theorem dX0_biteOf_32 : decode cX0_biteOf 32 = .ok (.aload_n 0, 1) := by decide +kernel
theorem dX0_biteOf_33 : decode cX0_biteOf 33 = .ok (.aload_n 1, 1) := by decide +kernel
theorem dX0_biteOf_34 : decode cX0_biteOf 34 = .ok (.iload_n 2, 1) := by decide +kernel
theorem dX0_biteOf_35 : decode cX0_biteOf 35 = .ok (.invokevirtual 65, 3) := by decide +kernel
theorem dX0_biteOf_38 : decode cX0_biteOf 38 = .ok (.aload_n 0, 1) := by decide +kernel
theorem dX0_biteOf_39 : decode cX0_biteOf 39 = .ok (.getfield 25, 3) := by decide +kernel
theorem dX0_biteOf_42 : decode cX0_biteOf 42 = .ok (.iconst 4, 1) := by decide +kernel
theorem dX0_biteOf_43 : decode cX0_biteOf 43 = .ok (.iload_n 3, 1) := by decide +kernel
theorem dX0_biteOf_44 : decode cX0_biteOf 44 = .ok (.iastore, 1) := by decide +kernel
theorem dX0_biteOf_45 : decode cX0_biteOf 45 = .ok (.aload_n 0, 1) := by decide +kernel
theorem dX0_biteOf_46 : decode cX0_biteOf 46 = .ok (.getfield 25, 3) := by decide +kernel
theorem dX0_biteOf_49 : decode cX0_biteOf 49 = .ok (.iconst 5, 1) := by decide +kernel
theorem dX0_biteOf_50 : decode cX0_biteOf 50 = .ok (.aload_n 1, 1) := by decide +kernel
theorem dX0_biteOf_51 : decode cX0_biteOf 51 = .ok (.getfield 37, 3) := by decide +kernel
theorem dX0_biteOf_54 : decode cX0_biteOf 54 = .ok (.iconst 2, 1) := by decide +kernel
theorem dX0_biteOf_55 : decode cX0_biteOf 55 = .ok (.aload_n 1, 1) := by decide +kernel
theorem dX0_biteOf_56 : decode cX0_biteOf 56 = .ok (.getfield 32, 3) := by decide +kernel
theorem dX0_biteOf_59 : decode cX0_biteOf 59 = .ok (.iload_n 2, 1) := by decide +kernel
theorem dX0_biteOf_60 : decode cX0_biteOf 60 = .ok (.iaload, 1) := by decide +kernel
theorem dX0_biteOf_61 : decode cX0_biteOf 61 = .ok (.imul, 1) := by decide +kernel
theorem dX0_biteOf_62 : decode cX0_biteOf 62 = .ok (.iload_n 3, 1) := by decide +kernel
theorem dX0_biteOf_63 : decode cX0_biteOf 63 = .ok (.iadd, 1) := by decide +kernel
theorem dX0_biteOf_64 : decode cX0_biteOf 64 = .ok (.iaload, 1) := by decide +kernel
theorem dX0_biteOf_65 : decode cX0_biteOf 65 = .ok (.iastore, 1) := by decide +kernel
theorem dX0_biteOf_66 : decode cX0_biteOf 66 = .ok (.aload_n 0, 1) := by decide +kernel
theorem dX0_biteOf_67 : decode cX0_biteOf 67 = .ok (.getfield 25, 3) := by decide +kernel
theorem dX0_biteOf_70 : decode cX0_biteOf 70 = .ok (.bipush 6, 2) := by decide +kernel
theorem dX0_biteOf_72 : decode cX0_biteOf 72 = .ok (.aload_n 1, 1) := by decide +kernel
theorem dX0_biteOf_73 : decode cX0_biteOf 73 = .ok (.getfield 90, 3) := by decide +kernel
theorem dX0_biteOf_76 : decode cX0_biteOf 76 = .ok (.iastore, 1) := by decide +kernel
theorem dX0_biteOf_77 : decode cX0_biteOf 77 = .ok (.aload_n 0, 1) := by decide +kernel
theorem dX0_biteOf_78 : decode cX0_biteOf 78 = .ok (.getfield 25, 3) := by decide +kernel
theorem dX0_biteOf_81 : decode cX0_biteOf 81 = .ok (.bipush 7, 2) := by decide +kernel
theorem dX0_biteOf_83 : decode cX0_biteOf 83 = .ok (.aload_n 1, 1) := by decide +kernel
theorem dX0_biteOf_84 : decode cX0_biteOf 84 = .ok (.getfield 32, 3) := by decide +kernel
theorem dX0_biteOf_87 : decode cX0_biteOf 87 = .ok (.iload_n 2, 1) := by decide +kernel
theorem dX0_biteOf_88 : decode cX0_biteOf 88 = .ok (.iaload, 1) := by decide +kernel
theorem dX0_biteOf_89 : decode cX0_biteOf 89 = .ok (.iastore, 1) := by decide +kernel
theorem dX0_biteOf_90 : decode cX0_biteOf 90 = .ok (.iconst 0, 1) := by decide +kernel
theorem dX0_biteOf_91 : decode cX0_biteOf 91 = .ok (.bipush 99, 2) := by decide +kernel
theorem dX0_biteOf_93 : decode cX0_biteOf 93 = .ok (.aload_n 0, 1) := by decide +kernel
theorem dX0_biteOf_94 : decode cX0_biteOf 94 = .ok (.aload 4, 2) := by decide +kernel
theorem dX0_biteOf_96 : decode cX0_biteOf 96 = .ok (.iconst 0, 1) := by decide +kernel
theorem dX0_biteOf_97 : decode cX0_biteOf 97 = .ok (.invokevirtual 69, 3) := by decide +kernel
theorem dX0_biteOf_100 : decode cX0_biteOf 100 = .ok (.invokestatic 44, 3) := by decide +kernel
theorem dX0_biteOf_103 : decode cX0_biteOf 103 = .ok (.invokestatic 73, 3) := by decide +kernel
theorem dX0_biteOf_106 : decode cX0_biteOf 106 = .ok (.ireturn, 1) := by decide +kernel
theorem dX0_ruling_0 : decode cX0_ruling 0 = .ok (.aload_n 0, 1) := by decide +kernel
theorem dX0_ruling_1 : decode cX0_ruling 1 = .ok (.getfield 12, 3) := by decide +kernel
theorem dX0_ruling_4 : decode cX0_ruling 4 = .ok (.getfield 93, 3) := by decide +kernel
theorem dX0_ruling_7 : decode cX0_ruling 7 = .ok (.istore_n 1, 1) := by decide +kernel
theorem dX0_ruling_8 : decode cX0_ruling 8 = .ok (.iload_n 1, 1) := by decide +kernel
theorem dX0_ruling_9 : decode cX0_ruling 9 = .ok (.ifCond .lt 12, 3) := by decide +kernel
theorem dX0_ruling_12 : decode cX0_ruling 12 = .ok (.iload_n 1, 1) := by decide +kernel
theorem dX0_ruling_13 : decode cX0_ruling 13 = .ok (.aload_n 0, 1) := by decide +kernel
theorem dX0_ruling_14 : decode cX0_ruling 14 = .ok (.getfield 20, 3) := by decide +kernel
theorem dX0_ruling_17 : decode cX0_ruling 17 = .ok (.arraylength, 1) := by decide +kernel
theorem dX0_ruling_18 : decode cX0_ruling 18 = .ok (.if_icmp .lt 7, 3) := by decide +kernel
theorem dX0_ruling_21 : decode cX0_ruling 21 = .ok (.aconst_null, 1) := by decide +kernel
theorem dX0_ruling_22 : decode cX0_ruling 22 = .ok (.goto 9, 3) := by decide +kernel
theorem dX0_ruling_25 : decode cX0_ruling 25 = .ok (.aload_n 0, 1) := by decide +kernel
theorem dX0_ruling_26 : decode cX0_ruling 26 = .ok (.getfield 20, 3) := by decide +kernel
theorem dX0_ruling_29 : decode cX0_ruling 29 = .ok (.iload_n 1, 1) := by decide +kernel
theorem dX0_ruling_30 : decode cX0_ruling 30 = .ok (.aaload, 1) := by decide +kernel
theorem dX0_ruling_31 : decode cX0_ruling 31 = .ok (.areturn, 1) := by decide +kernel
theorem dX0_nameEater_0 : decode cX0_nameEater 0 = .ok (.aload_n 0, 1) := by decide +kernel
theorem dX0_nameEater_1 : decode cX0_nameEater 1 = .ok (.getfield 25, 3) := by decide +kernel
theorem dX0_nameEater_4 : decode cX0_nameEater 4 = .ok (.iconst 0, 1) := by decide +kernel
theorem dX0_nameEater_5 : decode cX0_nameEater 5 = .ok (.iload_n 2, 1) := by decide +kernel
theorem dX0_nameEater_6 : decode cX0_nameEater 6 = .ok (.iastore, 1) := by decide +kernel
theorem dX0_nameEater_7 : decode cX0_nameEater 7 = .ok (.aload_n 0, 1) := by decide +kernel
theorem dX0_nameEater_8 : decode cX0_nameEater 8 = .ok (.getfield 25, 3) := by decide +kernel
theorem dX0_nameEater_11 : decode cX0_nameEater 11 = .ok (.iconst 1, 1) := by decide +kernel
theorem dX0_nameEater_12 : decode cX0_nameEater 12 = .ok (.aload_n 0, 1) := by decide +kernel
theorem dX0_nameEater_13 : decode cX0_nameEater 13 = .ok (.getfield 12, 3) := by decide +kernel
theorem dX0_nameEater_16 : decode cX0_nameEater 16 = .ok (.getfield 87, 3) := by decide +kernel
theorem dX0_nameEater_19 : decode cX0_nameEater 19 = .ok (.iload_n 2, 1) := by decide +kernel
theorem dX0_nameEater_20 : decode cX0_nameEater 20 = .ok (.iaload, 1) := by decide +kernel
theorem dX0_nameEater_21 : decode cX0_nameEater 21 = .ok (.iastore, 1) := by decide +kernel
theorem dX0_nameEater_22 : decode cX0_nameEater 22 = .ok (.aload_n 0, 1) := by decide +kernel
theorem dX0_nameEater_23 : decode cX0_nameEater 23 = .ok (.getfield 25, 3) := by decide +kernel
theorem dX0_nameEater_26 : decode cX0_nameEater 26 = .ok (.iconst 2, 1) := by decide +kernel
theorem dX0_nameEater_27 : decode cX0_nameEater 27 = .ok (.aload_n 0, 1) := by decide +kernel
theorem dX0_nameEater_28 : decode cX0_nameEater 28 = .ok (.getfield 12, 3) := by decide +kernel
theorem dX0_nameEater_31 : decode cX0_nameEater 31 = .ok (.getfield 58, 3) := by decide +kernel
theorem dX0_nameEater_34 : decode cX0_nameEater 34 = .ok (.iload_n 2, 1) := by decide +kernel
theorem dX0_nameEater_35 : decode cX0_nameEater 35 = .ok (.iaload, 1) := by decide +kernel
theorem dX0_nameEater_36 : decode cX0_nameEater 36 = .ok (.iastore, 1) := by decide +kernel
theorem dX0_nameEater_37 : decode cX0_nameEater 37 = .ok (.aload_n 0, 1) := by decide +kernel
theorem dX0_nameEater_38 : decode cX0_nameEater 38 = .ok (.getfield 25, 3) := by decide +kernel
theorem dX0_nameEater_41 : decode cX0_nameEater 41 = .ok (.iconst 3, 1) := by decide +kernel
theorem dX0_nameEater_42 : decode cX0_nameEater 42 = .ok (.aload_n 1, 1) := by decide +kernel
theorem dX0_nameEater_43 : decode cX0_nameEater 43 = .ok (.getfield 76, 3) := by decide +kernel
theorem dX0_nameEater_46 : decode cX0_nameEater 46 = .ok (.iload_n 2, 1) := by decide +kernel
theorem dX0_nameEater_47 : decode cX0_nameEater 47 = .ok (.iaload, 1) := by decide +kernel
theorem dX0_nameEater_48 : decode cX0_nameEater 48 = .ok (.iastore, 1) := by decide +kernel
theorem dX0_nameEater_49 : decode cX0_nameEater 49 = .ok (.return_, 1) := by decide +kernel
theorem dX0_reckon_0 : decode cX0_reckon 0 = .ok (.iconst 0, 1) := by decide +kernel
theorem dX0_reckon_1 : decode cX0_reckon 1 = .ok (.istore_n 3, 1) := by decide +kernel
theorem dX0_reckon_2 : decode cX0_reckon 2 = .ok (.aload_n 1, 1) := by decide +kernel
theorem dX0_reckon_3 : decode cX0_reckon 3 = .ok (.getfield 95, 3) := by decide +kernel
theorem dX0_reckon_6 : decode cX0_reckon 6 = .ok (.iload_n 2, 1) := by decide +kernel
theorem dX0_reckon_7 : decode cX0_reckon 7 = .ok (.iaload, 1) := by decide +kernel
theorem dX0_reckon_8 : decode cX0_reckon 8 = .ok (.istore 4, 2) := by decide +kernel
theorem dX0_reckon_10 : decode cX0_reckon 10 = .ok (.iload 4, 2) := by decide +kernel
theorem dX0_reckon_12 : decode cX0_reckon 12 = .ok (.ifCond .lt 199, 3) := by decide +kernel
theorem dX0_reckon_15 : decode cX0_reckon 15 = .ok (.iload 4, 2) := by decide +kernel
theorem dX0_reckon_17 : decode cX0_reckon 17 = .ok (.aload_n 1, 1) := by decide +kernel
theorem dX0_reckon_18 : decode cX0_reckon 18 = .ok (.getfield 98, 3) := by decide +kernel
theorem dX0_reckon_21 : decode cX0_reckon 21 = .ok (.iload_n 2, 1) := by decide +kernel
theorem dX0_reckon_22 : decode cX0_reckon 22 = .ok (.iaload, 1) := by decide +kernel
theorem dX0_reckon_23 : decode cX0_reckon 23 = .ok (.if_icmp .ge 188, 3) := by decide +kernel
theorem dX0_reckon_26 : decode cX0_reckon 26 = .ok (.iload 4, 2) := by decide +kernel
theorem dX0_reckon_28 : decode cX0_reckon 28 = .ok (.aload_n 1, 1) := by decide +kernel
theorem dX0_reckon_29 : decode cX0_reckon 29 = .ok (.getfield 101, 3) := by decide +kernel
theorem dX0_reckon_32 : decode cX0_reckon 32 = .ok (.arraylength, 1) := by decide +kernel
theorem dX0_reckon_33 : decode cX0_reckon 33 = .ok (.if_icmp .ge 178, 3) := by decide +kernel
theorem dX0_reckon_36 : decode cX0_reckon 36 = .ok (.aload_n 1, 1) := by decide +kernel
theorem dX0_reckon_37 : decode cX0_reckon 37 = .ok (.getfield 101, 3) := by decide +kernel
theorem dX0_reckon_40 : decode cX0_reckon 40 = .ok (.iload 4, 2) := by decide +kernel
theorem dX0_reckon_42 : decode cX0_reckon 42 = .ok (.iaload, 1) := by decide +kernel
theorem dX0_reckon_43 : decode cX0_reckon 43 = .ok (.istore 5, 2) := by decide +kernel
theorem dX0_reckon_45 : decode cX0_reckon 45 = .ok (.iload 5, 2) := by decide +kernel
theorem dX0_reckon_47 : decode cX0_reckon 47 = .ok (.sipush 10000, 3) := by decide +kernel
theorem dX0_reckon_50 : decode cX0_reckon 50 = .ok (.isub, 1) := by decide +kernel
theorem dX0_reckon_51 : decode cX0_reckon 51 = .ok (.istore 6, 2) := by decide +kernel
theorem dX0_reckon_53 : decode cX0_reckon 53 = .ok (.iload 5, 2) := by decide +kernel
theorem dX0_reckon_55 : decode cX0_reckon 55 = .ok (.invokestatic 104, 3) := by decide +kernel
theorem dX0_reckon_58 : decode cX0_reckon 58 = .ok (.ifCond .eq 47, 3) := by decide +kernel
theorem dX0_reckon_61 : decode cX0_reckon 61 = .ok (.iload_n 3, 1) := by decide +kernel
theorem dX0_reckon_62 : decode cX0_reckon 62 = .ok (.aload_n 0, 1) := by decide +kernel
theorem dX0_reckon_63 : decode cX0_reckon 63 = .ok (.getfield 29, 3) := by decide +kernel
theorem dX0_reckon_66 : decode cX0_reckon 66 = .ok (.arraylength, 1) := by decide +kernel
theorem dX0_reckon_67 : decode cX0_reckon 67 = .ok (.if_icmp .ge 38, 3) := by decide +kernel
theorem dX0_reckon_70 : decode cX0_reckon 70 = .ok (.aload_n 0, 1) := by decide +kernel
theorem dX0_reckon_71 : decode cX0_reckon 71 = .ok (.getfield 29, 3) := by decide +kernel
theorem dX0_reckon_74 : decode cX0_reckon 74 = .ok (.iload_n 3, 1) := by decide +kernel
theorem dX0_reckon_75 : decode cX0_reckon 75 = .ok (.iload 5, 2) := by decide +kernel
theorem dX0_reckon_77 : decode cX0_reckon 77 = .ok (.sipush 10000, 3) := by decide +kernel
theorem dX0_reckon_80 : decode cX0_reckon 80 = .ok (.if_icmp .ge 8, 3) := by decide +kernel
theorem dX0_reckon_83 : decode cX0_reckon 83 = .ok (.iload 5, 2) := by decide +kernel
theorem dX0_reckon_85 : decode cX0_reckon 85 = .ok (.goto 13, 3) := by decide +kernel
theorem dX0_reckon_88 : decode cX0_reckon 88 = .ok (.aload_n 0, 1) := by decide +kernel
theorem dX0_reckon_89 : decode cX0_reckon 89 = .ok (.getfield 25, 3) := by decide +kernel
theorem dX0_reckon_92 : decode cX0_reckon 92 = .ok (.iload 6, 2) := by decide +kernel
theorem dX0_reckon_94 : decode cX0_reckon 94 = .ok (.bipush 12, 2) := by decide +kernel
theorem dX0_reckon_96 : decode cX0_reckon 96 = .ok (.isub, 1) := by decide +kernel
theorem dX0_reckon_97 : decode cX0_reckon 97 = .ok (.iaload, 1) := by decide +kernel
theorem dX0_reckon_98 : decode cX0_reckon 98 = .ok (.iastore, 1) := by decide +kernel
theorem dX0_reckon_99 : decode cX0_reckon 99 = .ok (.iinc 3 1, 3) := by decide +kernel
theorem dX0_reckon_102 : decode cX0_reckon 102 = .ok (.goto 103, 3) := by decide +kernel
theorem dX0_reckon_105 : decode cX0_reckon 105 = .ok (.iload 6, 2) := by decide +kernel
theorem dX0_reckon_107 : decode cX0_reckon 107 = .ok (.bipush 40, 2) := by decide +kernel
theorem dX0_reckon_109 : decode cX0_reckon 109 = .ok (.if_icmp .ne 28, 3) := by decide +kernel
theorem dX0_reckon_112 : decode cX0_reckon 112 = .ok (.iload_n 3, 1) := by decide +kernel
theorem dX0_reckon_113 : decode cX0_reckon 113 = .ok (.iconst 1, 1) := by decide +kernel
theorem dX0_reckon_114 : decode cX0_reckon 114 = .ok (.if_icmp .lt 23, 3) := by decide +kernel
theorem dX0_reckon_117 : decode cX0_reckon 117 = .ok (.aload_n 0, 1) := by decide +kernel
theorem dX0_reckon_118 : decode cX0_reckon 118 = .ok (.getfield 29, 3) := by decide +kernel
theorem dX0_reckon_121 : decode cX0_reckon 121 = .ok (.iload_n 3, 1) := by decide +kernel
theorem dX0_reckon_122 : decode cX0_reckon 122 = .ok (.iconst 1, 1) := by decide +kernel
theorem dX0_reckon_123 : decode cX0_reckon 123 = .ok (.isub, 1) := by decide +kernel
theorem dX0_reckon_124 : decode cX0_reckon 124 = .ok (.aload_n 0, 1) := by decide +kernel
theorem dX0_reckon_125 : decode cX0_reckon 125 = .ok (.getfield 29, 3) := by decide +kernel
theorem dX0_reckon_128 : decode cX0_reckon 128 = .ok (.iload_n 3, 1) := by decide +kernel
theorem dX0_reckon_129 : decode cX0_reckon 129 = .ok (.iconst 1, 1) := by decide +kernel
theorem dX0_reckon_130 : decode cX0_reckon 130 = .ok (.isub, 1) := by decide +kernel
theorem dX0_reckon_131 : decode cX0_reckon 131 = .ok (.iaload, 1) := by decide +kernel
theorem dX0_reckon_132 : decode cX0_reckon 132 = .ok (.ineg, 1) := by decide +kernel
theorem dX0_reckon_133 : decode cX0_reckon 133 = .ok (.iastore, 1) := by decide +kernel
theorem dX0_reckon_134 : decode cX0_reckon 134 = .ok (.goto 71, 3) := by decide +kernel
theorem dX0_reckon_137 : decode cX0_reckon 137 = .ok (.iload 6, 2) := by decide +kernel
theorem dX0_reckon_139 : decode cX0_reckon 139 = .ok (.bipush 11, 2) := by decide +kernel
theorem dX0_reckon_141 : decode cX0_reckon 141 = .ok (.if_icmp .ne 29, 3) := by decide +kernel
theorem dX0_reckon_144 : decode cX0_reckon 144 = .ok (.iload_n 3, 1) := by decide +kernel
theorem dX0_reckon_145 : decode cX0_reckon 145 = .ok (.iconst 1, 1) := by decide +kernel
theorem dX0_reckon_146 : decode cX0_reckon 146 = .ok (.if_icmp .lt 24, 3) := by decide +kernel
theorem dX0_reckon_149 : decode cX0_reckon 149 = .ok (.aload_n 0, 1) := by decide +kernel
theorem dX0_reckon_150 : decode cX0_reckon 150 = .ok (.getfield 29, 3) := by decide +kernel
theorem dX0_reckon_153 : decode cX0_reckon 153 = .ok (.iload_n 3, 1) := by decide +kernel
theorem dX0_reckon_154 : decode cX0_reckon 154 = .ok (.iconst 1, 1) := by decide +kernel
theorem dX0_reckon_155 : decode cX0_reckon 155 = .ok (.isub, 1) := by decide +kernel
theorem dX0_reckon_156 : decode cX0_reckon 156 = .ok (.iconst 1, 1) := by decide +kernel
theorem dX0_reckon_157 : decode cX0_reckon 157 = .ok (.aload_n 0, 1) := by decide +kernel
theorem dX0_reckon_158 : decode cX0_reckon 158 = .ok (.getfield 29, 3) := by decide +kernel
theorem dX0_reckon_161 : decode cX0_reckon 161 = .ok (.iload_n 3, 1) := by decide +kernel
theorem dX0_reckon_162 : decode cX0_reckon 162 = .ok (.iconst 1, 1) := by decide +kernel
theorem dX0_reckon_163 : decode cX0_reckon 163 = .ok (.isub, 1) := by decide +kernel
theorem dX0_reckon_164 : decode cX0_reckon 164 = .ok (.iaload, 1) := by decide +kernel
theorem dX0_reckon_165 : decode cX0_reckon 165 = .ok (.isub, 1) := by decide +kernel
theorem dX0_reckon_166 : decode cX0_reckon 166 = .ok (.iastore, 1) := by decide +kernel
theorem dX0_reckon_167 : decode cX0_reckon 167 = .ok (.goto 38, 3) := by decide +kernel
theorem dX0_reckon_170 : decode cX0_reckon 170 = .ok (.iload_n 3, 1) := by decide +kernel
theorem dX0_reckon_171 : decode cX0_reckon 171 = .ok (.iconst 2, 1) := by decide +kernel
theorem dX0_reckon_172 : decode cX0_reckon 172 = .ok (.if_icmp .lt 33, 3) := by decide +kernel
theorem dX0_reckon_175 : decode cX0_reckon 175 = .ok (.iinc 3 (-1), 3) := by decide +kernel
theorem dX0_reckon_178 : decode cX0_reckon 178 = .ok (.aload_n 0, 1) := by decide +kernel
theorem dX0_reckon_179 : decode cX0_reckon 179 = .ok (.getfield 29, 3) := by decide +kernel
theorem dX0_reckon_182 : decode cX0_reckon 182 = .ok (.iload_n 3, 1) := by decide +kernel
theorem dX0_reckon_183 : decode cX0_reckon 183 = .ok (.iconst 1, 1) := by decide +kernel
theorem dX0_reckon_184 : decode cX0_reckon 184 = .ok (.isub, 1) := by decide +kernel
theorem dX0_reckon_185 : decode cX0_reckon 185 = .ok (.iload 6, 2) := by decide +kernel
theorem dX0_reckon_187 : decode cX0_reckon 187 = .ok (.aload_n 0, 1) := by decide +kernel
theorem dX0_reckon_188 : decode cX0_reckon 188 = .ok (.getfield 29, 3) := by decide +kernel
theorem dX0_reckon_191 : decode cX0_reckon 191 = .ok (.iload_n 3, 1) := by decide +kernel
theorem dX0_reckon_192 : decode cX0_reckon 192 = .ok (.iconst 1, 1) := by decide +kernel
theorem dX0_reckon_193 : decode cX0_reckon 193 = .ok (.isub, 1) := by decide +kernel
theorem dX0_reckon_194 : decode cX0_reckon 194 = .ok (.iaload, 1) := by decide +kernel
theorem dX0_reckon_195 : decode cX0_reckon 195 = .ok (.aload_n 0, 1) := by decide +kernel
theorem dX0_reckon_196 : decode cX0_reckon 196 = .ok (.getfield 29, 3) := by decide +kernel
theorem dX0_reckon_199 : decode cX0_reckon 199 = .ok (.iload_n 3, 1) := by decide +kernel
theorem dX0_reckon_200 : decode cX0_reckon 200 = .ok (.iaload, 1) := by decide +kernel
theorem dX0_reckon_201 : decode cX0_reckon 201 = .ok (.invokestatic 107, 3) := by decide +kernel
theorem dX0_reckon_204 : decode cX0_reckon 204 = .ok (.iastore, 1) := by decide +kernel
theorem dX0_reckon_205 : decode cX0_reckon 205 = .ok (.iinc 4 1, 3) := by decide +kernel
theorem dX0_reckon_208 : decode cX0_reckon 208 = .ok (.goto (-198), 3) := by decide +kernel
theorem dX0_reckon_211 : decode cX0_reckon 211 = .ok (.iload_n 3, 1) := by decide +kernel
theorem dX0_reckon_212 : decode cX0_reckon 212 = .ok (.iconst 1, 1) := by decide +kernel
theorem dX0_reckon_213 : decode cX0_reckon 213 = .ok (.if_icmp .ge 7, 3) := by decide +kernel
theorem dX0_reckon_216 : decode cX0_reckon 216 = .ok (.iconst 0, 1) := by decide +kernel
theorem dX0_reckon_217 : decode cX0_reckon 217 = .ok (.goto 9, 3) := by decide +kernel
theorem dX0_reckon_220 : decode cX0_reckon 220 = .ok (.aload_n 0, 1) := by decide +kernel
theorem dX0_reckon_221 : decode cX0_reckon 221 = .ok (.getfield 29, 3) := by decide +kernel
theorem dX0_reckon_224 : decode cX0_reckon 224 = .ok (.iconst 0, 1) := by decide +kernel
theorem dX0_reckon_225 : decode cX0_reckon 225 = .ok (.iaload, 1) := by decide +kernel
theorem dX0_reckon_226 : decode cX0_reckon 226 = .ok (.ireturn, 1) := by decide +kernel
theorem dX0_isValue_0 : decode cX0_isValue 0 = .ok (.iload_n 0, 1) := by decide +kernel
theorem dX0_isValue_1 : decode cX0_isValue 1 = .ok (.sipush 10000, 3) := by decide +kernel
theorem dX0_isValue_4 : decode cX0_isValue 4 = .ok (.if_icmp .lt 17, 3) := by decide +kernel
theorem dX0_isValue_7 : decode cX0_isValue 7 = .ok (.iload_n 0, 1) := by decide +kernel
theorem dX0_isValue_8 : decode cX0_isValue 8 = .ok (.sipush 10012, 3) := by decide +kernel
theorem dX0_isValue_11 : decode cX0_isValue 11 = .ok (.if_icmp .lt 14, 3) := by decide +kernel
theorem dX0_isValue_14 : decode cX0_isValue 14 = .ok (.iload_n 0, 1) := by decide +kernel
theorem dX0_isValue_15 : decode cX0_isValue 15 = .ok (.sipush 10024, 3) := by decide +kernel
theorem dX0_isValue_18 : decode cX0_isValue 18 = .ok (.if_icmp .ge 7, 3) := by decide +kernel
theorem dX0_isValue_21 : decode cX0_isValue 21 = .ok (.iconst 1, 1) := by decide +kernel
theorem dX0_isValue_22 : decode cX0_isValue 22 = .ok (.goto 4, 3) := by decide +kernel
theorem dX0_isValue_25 : decode cX0_isValue 25 = .ok (.iconst 0, 1) := by decide +kernel
theorem dX0_isValue_26 : decode cX0_isValue 26 = .ok (.ireturn, 1) := by decide +kernel
theorem dX0_combine_0 : decode cX0_combine 0 = .ok (.iload_n 0, 1) := by decide +kernel
theorem dX0_combine_1 : decode cX0_combine 1 = .ok (.tableswitch 213 9 36 #[127, 131, 213, 213, 213, 213, 213, 213, 213, 213, 213, 213, 213, 213, 213, 135, 146, 179, 190, 213, 213, 213, 201, 213, 213, 213, 157, 168], 127) := by decide +kernel
theorem dX0_combine_128 : decode cX0_combine 128 = .ok (.iload_n 1, 1) := by decide +kernel
theorem dX0_combine_129 : decode cX0_combine 129 = .ok (.iload_n 2, 1) := by decide +kernel
theorem dX0_combine_130 : decode cX0_combine 130 = .ok (.ior, 1) := by decide +kernel
theorem dX0_combine_131 : decode cX0_combine 131 = .ok (.ireturn, 1) := by decide +kernel
theorem dX0_combine_132 : decode cX0_combine 132 = .ok (.iload_n 1, 1) := by decide +kernel
theorem dX0_combine_133 : decode cX0_combine 133 = .ok (.iload_n 2, 1) := by decide +kernel
theorem dX0_combine_134 : decode cX0_combine 134 = .ok (.iand, 1) := by decide +kernel
theorem dX0_combine_135 : decode cX0_combine 135 = .ok (.ireturn, 1) := by decide +kernel
theorem dX0_combine_136 : decode cX0_combine 136 = .ok (.iload_n 1, 1) := by decide +kernel
theorem dX0_combine_137 : decode cX0_combine 137 = .ok (.iload_n 2, 1) := by decide +kernel
theorem dX0_combine_138 : decode cX0_combine 138 = .ok (.if_icmp .ge 7, 3) := by decide +kernel
theorem dX0_combine_141 : decode cX0_combine 141 = .ok (.iconst 1, 1) := by decide +kernel
theorem dX0_combine_142 : decode cX0_combine 142 = .ok (.goto 4, 3) := by decide +kernel
theorem dX0_combine_145 : decode cX0_combine 145 = .ok (.iconst 0, 1) := by decide +kernel
theorem dX0_combine_146 : decode cX0_combine 146 = .ok (.ireturn, 1) := by decide +kernel
theorem dX0_combine_147 : decode cX0_combine 147 = .ok (.iload_n 1, 1) := by decide +kernel
theorem dX0_combine_148 : decode cX0_combine 148 = .ok (.iload_n 2, 1) := by decide +kernel
theorem dX0_combine_149 : decode cX0_combine 149 = .ok (.if_icmp .le 7, 3) := by decide +kernel
theorem dX0_combine_152 : decode cX0_combine 152 = .ok (.iconst 1, 1) := by decide +kernel
theorem dX0_combine_153 : decode cX0_combine 153 = .ok (.goto 4, 3) := by decide +kernel
theorem dX0_combine_156 : decode cX0_combine 156 = .ok (.iconst 0, 1) := by decide +kernel
theorem dX0_combine_157 : decode cX0_combine 157 = .ok (.ireturn, 1) := by decide +kernel
theorem dX0_combine_158 : decode cX0_combine 158 = .ok (.iload_n 1, 1) := by decide +kernel
theorem dX0_combine_159 : decode cX0_combine 159 = .ok (.iload_n 2, 1) := by decide +kernel
theorem dX0_combine_160 : decode cX0_combine 160 = .ok (.if_icmp .gt 7, 3) := by decide +kernel
theorem dX0_combine_163 : decode cX0_combine 163 = .ok (.iconst 1, 1) := by decide +kernel
theorem dX0_combine_164 : decode cX0_combine 164 = .ok (.goto 4, 3) := by decide +kernel
theorem dX0_combine_167 : decode cX0_combine 167 = .ok (.iconst 0, 1) := by decide +kernel
theorem dX0_combine_168 : decode cX0_combine 168 = .ok (.ireturn, 1) := by decide +kernel
theorem dX0_combine_169 : decode cX0_combine 169 = .ok (.iload_n 1, 1) := by decide +kernel
theorem dX0_combine_170 : decode cX0_combine 170 = .ok (.iload_n 2, 1) := by decide +kernel
theorem dX0_combine_171 : decode cX0_combine 171 = .ok (.if_icmp .lt 7, 3) := by decide +kernel
theorem dX0_combine_174 : decode cX0_combine 174 = .ok (.iconst 1, 1) := by decide +kernel
theorem dX0_combine_175 : decode cX0_combine 175 = .ok (.goto 4, 3) := by decide +kernel
theorem dX0_combine_178 : decode cX0_combine 178 = .ok (.iconst 0, 1) := by decide +kernel
theorem dX0_combine_179 : decode cX0_combine 179 = .ok (.ireturn, 1) := by decide +kernel
theorem dX0_combine_180 : decode cX0_combine 180 = .ok (.iload_n 1, 1) := by decide +kernel
theorem dX0_combine_181 : decode cX0_combine 181 = .ok (.iload_n 2, 1) := by decide +kernel
theorem dX0_combine_182 : decode cX0_combine 182 = .ok (.if_icmp .ne 7, 3) := by decide +kernel
theorem dX0_combine_185 : decode cX0_combine 185 = .ok (.iconst 1, 1) := by decide +kernel
theorem dX0_combine_186 : decode cX0_combine 186 = .ok (.goto 4, 3) := by decide +kernel
theorem dX0_combine_189 : decode cX0_combine 189 = .ok (.iconst 0, 1) := by decide +kernel
theorem dX0_combine_190 : decode cX0_combine 190 = .ok (.ireturn, 1) := by decide +kernel
theorem dX0_combine_191 : decode cX0_combine 191 = .ok (.iload_n 1, 1) := by decide +kernel
theorem dX0_combine_192 : decode cX0_combine 192 = .ok (.iload_n 2, 1) := by decide +kernel
theorem dX0_combine_193 : decode cX0_combine 193 = .ok (.if_icmp .eq 7, 3) := by decide +kernel
theorem dX0_combine_196 : decode cX0_combine 196 = .ok (.iconst 1, 1) := by decide +kernel
theorem dX0_combine_197 : decode cX0_combine 197 = .ok (.goto 4, 3) := by decide +kernel
theorem dX0_combine_200 : decode cX0_combine 200 = .ok (.iconst 0, 1) := by decide +kernel
theorem dX0_combine_201 : decode cX0_combine 201 = .ok (.ireturn, 1) := by decide +kernel
theorem dX0_combine_202 : decode cX0_combine 202 = .ok (.iload_n 2, 1) := by decide +kernel
theorem dX0_combine_203 : decode cX0_combine 203 = .ok (.ifCond .ne 7, 3) := by decide +kernel
theorem dX0_combine_206 : decode cX0_combine 206 = .ok (.iconst 0, 1) := by decide +kernel
theorem dX0_combine_207 : decode cX0_combine 207 = .ok (.goto 6, 3) := by decide +kernel
theorem dX0_combine_210 : decode cX0_combine 210 = .ok (.iload_n 1, 1) := by decide +kernel
theorem dX0_combine_211 : decode cX0_combine 211 = .ok (.iload_n 2, 1) := by decide +kernel
theorem dX0_combine_212 : decode cX0_combine 212 = .ok (.idiv, 1) := by decide +kernel
theorem dX0_combine_213 : decode cX0_combine 213 = .ok (.ireturn, 1) := by decide +kernel
theorem dX0_combine_214 : decode cX0_combine 214 = .ok (.iload_n 1, 1) := by decide +kernel
theorem dX0_combine_215 : decode cX0_combine 215 = .ok (.i2l, 1) := by decide +kernel
theorem dX0_combine_216 : decode cX0_combine 216 = .ok (.iload_n 2, 1) := by decide +kernel
theorem dX0_combine_217 : decode cX0_combine 217 = .ok (.i2l, 1) := by decide +kernel
theorem dX0_combine_218 : decode cX0_combine 218 = .ok (.lmul, 1) := by decide +kernel
theorem dX0_combine_219 : decode cX0_combine 219 = .ok (.lstore_n 3, 1) := by decide +kernel
theorem dX0_combine_220 : decode cX0_combine 220 = .ok (.iload_n 0, 1) := by decide +kernel
theorem dX0_combine_221 : decode cX0_combine 221 = .ok (.bipush 28, 2) := by decide +kernel
theorem dX0_combine_223 : decode cX0_combine 223 = .ok (.if_icmp .ne 11, 3) := by decide +kernel
theorem dX0_combine_226 : decode cX0_combine 226 = .ok (.iload_n 1, 1) := by decide +kernel
theorem dX0_combine_227 : decode cX0_combine 227 = .ok (.iload_n 2, 1) := by decide +kernel
theorem dX0_combine_228 : decode cX0_combine 228 = .ok (.iadd, 1) := by decide +kernel
theorem dX0_combine_229 : decode cX0_combine 229 = .ok (.i2l, 1) := by decide +kernel
theorem dX0_combine_230 : decode cX0_combine 230 = .ok (.lstore_n 3, 1) := by decide +kernel
theorem dX0_combine_231 : decode cX0_combine 231 = .ok (.goto 14, 3) := by decide +kernel
theorem dX0_combine_234 : decode cX0_combine 234 = .ok (.iload_n 0, 1) := by decide +kernel
theorem dX0_combine_235 : decode cX0_combine 235 = .ok (.bipush 29, 2) := by decide +kernel
theorem dX0_combine_237 : decode cX0_combine 237 = .ok (.if_icmp .ne 8, 3) := by decide +kernel
theorem dX0_combine_240 : decode cX0_combine 240 = .ok (.iload_n 1, 1) := by decide +kernel
theorem dX0_combine_241 : decode cX0_combine 241 = .ok (.iload_n 2, 1) := by decide +kernel
theorem dX0_combine_242 : decode cX0_combine 242 = .ok (.isub, 1) := by decide +kernel
theorem dX0_combine_243 : decode cX0_combine 243 = .ok (.i2l, 1) := by decide +kernel
theorem dX0_combine_244 : decode cX0_combine 244 = .ok (.lstore_n 3, 1) := by decide +kernel
theorem dX0_combine_245 : decode cX0_combine 245 = .ok (.lload_n 3, 1) := by decide +kernel
theorem dX0_combine_246 : decode cX0_combine 246 = .ok (.ldc2_w 111, 3) := by decide +kernel
theorem dX0_combine_249 : decode cX0_combine 249 = .ok (.lcmp, 1) := by decide +kernel
theorem dX0_combine_250 : decode cX0_combine 250 = .ok (.ifCond .le 6, 3) := by decide +kernel
theorem dX0_combine_253 : decode cX0_combine 253 = .ok (.ldc 113, 2) := by decide +kernel
theorem dX0_combine_255 : decode cX0_combine 255 = .ok (.ireturn, 1) := by decide +kernel
theorem dX0_combine_256 : decode cX0_combine 256 = .ok (.lload_n 3, 1) := by decide +kernel
theorem dX0_combine_257 : decode cX0_combine 257 = .ok (.ldc2_w 114, 3) := by decide +kernel
theorem dX0_combine_260 : decode cX0_combine 260 = .ok (.lcmp, 1) := by decide +kernel
theorem dX0_combine_261 : decode cX0_combine 261 = .ok (.ifCond .ge 8, 3) := by decide +kernel
theorem dX0_combine_264 : decode cX0_combine 264 = .ok (.ldc 116, 2) := by decide +kernel
theorem dX0_combine_266 : decode cX0_combine 266 = .ok (.goto 5, 3) := by decide +kernel
theorem dX0_combine_269 : decode cX0_combine 269 = .ok (.lload_n 3, 1) := by decide +kernel
theorem dX0_combine_270 : decode cX0_combine 270 = .ok (.l2i, 1) := by decide +kernel
theorem dX0_combine_271 : decode cX0_combine 271 = .ok (.ireturn, 1) := by decide +kernel
