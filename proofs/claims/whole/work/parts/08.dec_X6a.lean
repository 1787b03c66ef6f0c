theorem dX6_init_0 : decode cX6_init 0 = .ok (.aload_n 0, 1) := by decide +kernel
theorem dX6_init_1 : decode cX6_init 1 = .ok (.invokespecial 1, 3) := by decide +kernel
theorem dX6_init_4 : decode cX6_init 4 = .ok (.aload_n 0, 1) := by decide +kernel
theorem dX6_init_5 : decode cX6_init 5 = .ok (.new 7, 3) := by decide +kernel
theorem dX6_init_8 : decode cX6_init 8 = .ok (.dup, 1) := by decide +kernel
theorem dX6_init_9 : decode cX6_init 9 = .ok (.invokespecial 9, 3) := by decide +kernel
theorem dX6_init_12 : decode cX6_init 12 = .ok (.putfield 10, 3) := by decide +kernel
theorem dX6_init_15 : decode cX6_init 15 = .ok (.aload_n 0, 1) := by decide +kernel
theorem dX6_init_16 : decode cX6_init 16 = .ok (.aload_n 0, 1) := by decide +kernel
theorem dX6_init_17 : decode cX6_init 17 = .ok (.getfield 10, 3) := by decide +kernel
theorem dX6_init_20 : decode cX6_init 20 = .ok (.getfield 16, 3) := by decide +kernel
theorem dX6_init_23 : decode cX6_init 23 = .ok (.putfield 20, 3) := by decide +kernel
theorem dX6_init_26 : decode cX6_init 26 = .ok (.aload_n 0, 1) := by decide +kernel
theorem dX6_init_27 : decode cX6_init 27 = .ok (.aload_n 0, 1) := by decide +kernel
theorem dX6_init_28 : decode cX6_init 28 = .ok (.getfield 20, 3) := by decide +kernel
theorem dX6_init_31 : decode cX6_init 31 = .ok (.getfield 21, 3) := by decide +kernel
theorem dX6_init_34 : decode cX6_init 34 = .ok (.putfield 27, 3) := by decide +kernel
theorem dX6_init_37 : decode cX6_init 37 = .ok (.aload_n 0, 1) := by decide +kernel
theorem dX6_init_38 : decode cX6_init 38 = .ok (.new 28, 3) := by decide +kernel
theorem dX6_init_41 : decode cX6_init 41 = .ok (.dup, 1) := by decide +kernel
theorem dX6_init_42 : decode cX6_init 42 = .ok (.invokespecial 30, 3) := by decide +kernel
theorem dX6_init_45 : decode cX6_init 45 = .ok (.putfield 31, 3) := by decide +kernel
theorem dX6_init_48 : decode cX6_init 48 = .ok (.aload_n 0, 1) := by decide +kernel
theorem dX6_init_49 : decode cX6_init 49 = .ok (.new 34, 3) := by decide +kernel
theorem dX6_init_52 : decode cX6_init 52 = .ok (.dup, 1) := by decide +kernel
theorem dX6_init_53 : decode cX6_init 53 = .ok (.invokespecial 36, 3) := by decide +kernel
theorem dX6_init_56 : decode cX6_init 56 = .ok (.putfield 37, 3) := by decide +kernel
theorem dX6_init_59 : decode cX6_init 59 = .ok (.aload_n 0, 1) := by decide +kernel
theorem dX6_init_60 : decode cX6_init 60 = .ok (.bipush 9, 2) := by decide +kernel
theorem dX6_init_62 : decode cX6_init 62 = .ok (.newarray .int, 2) := by decide +kernel
theorem dX6_init_64 : decode cX6_init 64 = .ok (.putfield 41, 3) := by decide +kernel
theorem dX6_init_67 : decode cX6_init 67 = .ok (.aload_n 0, 1) := by decide +kernel
theorem dX6_init_68 : decode cX6_init 68 = .ok (.iconst 0, 1) := by decide +kernel
theorem dX6_init_69 : decode cX6_init 69 = .ok (.putfield 45, 3) := by decide +kernel
theorem dX6_init_72 : decode cX6_init 72 = .ok (.aload_n 0, 1) := by decide +kernel
theorem dX6_init_73 : decode cX6_init 73 = .ok (.iconst (-1), 1) := by decide +kernel
theorem dX6_init_74 : decode cX6_init 74 = .ok (.putfield 49, 3) := by decide +kernel
theorem dX6_init_77 : decode cX6_init 77 = .ok (.aload_n 0, 1) := by decide +kernel
theorem dX6_init_78 : decode cX6_init 78 = .ok (.iconst (-1), 1) := by decide +kernel
theorem dX6_init_79 : decode cX6_init 79 = .ok (.putfield 52, 3) := by decide +kernel
theorem dX6_init_82 : decode cX6_init 82 = .ok (.aload_n 0, 1) := by decide +kernel
theorem dX6_init_83 : decode cX6_init 83 = .ok (.iconst (-1), 1) := by decide +kernel
theorem dX6_init_84 : decode cX6_init 84 = .ok (.putfield 55, 3) := by decide +kernel
theorem dX6_init_87 : decode cX6_init 87 = .ok (.return_, 1) := by decide +kernel
theorem dX6_pot_0 : decode cX6_pot 0 = .ok (.iload_n 1, 1) := by decide +kernel
theorem dX6_pot_1 : decode cX6_pot 1 = .ok (.invokestatic 58, 3) := by decide +kernel
theorem dX6_pot_4 : decode cX6_pot 4 = .ok (.ifCond .eq 21, 3) := by decide +kernel
theorem dX6_pot_7 : decode cX6_pot 7 = .ok (.iload_n 2, 1) := by decide +kernel
theorem dX6_pot_8 : decode cX6_pot 8 = .ok (.invokestatic 62, 3) := by decide +kernel
theorem dX6_pot_11 : decode cX6_pot 11 = .ok (.ifCond .eq 14, 3) := by decide +kernel
theorem dX6_pot_14 : decode cX6_pot 14 = .ok (.iload_n 3, 1) := by decide +kernel
theorem dX6_pot_15 : decode cX6_pot 15 = .ok (.ifCond .lt 10, 3) := by decide +kernel
theorem dX6_pot_18 : decode cX6_pot 18 = .ok (.iload_n 3, 1) := by decide +kernel
theorem dX6_pot_19 : decode cX6_pot 19 = .ok (.sipush 999, 3) := by decide +kernel
theorem dX6_pot_22 : decode cX6_pot 22 = .ok (.if_icmp .le 5, 3) := by decide +kernel
theorem dX6_pot_25 : decode cX6_pot 25 = .ok (.iconst 0, 1) := by decide +kernel
theorem dX6_pot_26 : decode cX6_pot 26 = .ok (.ireturn, 1) := by decide +kernel
theorem dX6_pot_27 : decode cX6_pot 27 = .ok (.aload_n 0, 1) := by decide +kernel
theorem dX6_pot_28 : decode cX6_pot 28 = .ok (.invokevirtual 65, 3) := by decide +kernel
theorem dX6_pot_31 : decode cX6_pot 31 = .ok (.aload_n 0, 1) := by decide +kernel
theorem dX6_pot_32 : decode cX6_pot 32 = .ok (.getfield 27, 3) := by decide +kernel
theorem dX6_pot_35 : decode cX6_pot 35 = .ok (.getfield 68, 3) := by decide +kernel
theorem dX6_pot_38 : decode cX6_pot 38 = .ok (.getfield 72, 3) := by decide +kernel
theorem dX6_pot_41 : decode cX6_pot 41 = .ok (.iconst 2, 1) := by decide +kernel
theorem dX6_pot_42 : decode cX6_pot 42 = .ok (.iload_n 1, 1) := by decide +kernel
theorem dX6_pot_43 : decode cX6_pot 43 = .ok (.imul, 1) := by decide +kernel
theorem dX6_pot_44 : decode cX6_pot 44 = .ok (.iload_n 2, 1) := by decide +kernel
theorem dX6_pot_45 : decode cX6_pot 45 = .ok (.iadd, 1) := by decide +kernel
theorem dX6_pot_46 : decode cX6_pot 46 = .ok (.iload_n 3, 1) := by decide +kernel
theorem dX6_pot_47 : decode cX6_pot 47 = .ok (.iastore, 1) := by decide +kernel
theorem dX6_pot_48 : decode cX6_pot 48 = .ok (.iconst 1, 1) := by decide +kernel
theorem dX6_pot_49 : decode cX6_pot 49 = .ok (.ireturn, 1) := by decide +kernel
theorem dX6_eater_0 : decode cX6_eater 0 = .ok (.iload_n 1, 1) := by decide +kernel
theorem dX6_eater_1 : decode cX6_eater 1 = .ok (.ifCond .lt 30, 3) := by decide +kernel
theorem dX6_eater_4 : decode cX6_eater 4 = .ok (.iload_n 1, 1) := by decide +kernel
theorem dX6_eater_5 : decode cX6_eater 5 = .ok (.bipush 9, 2) := by decide +kernel
theorem dX6_eater_7 : decode cX6_eater 7 = .ok (.if_icmp .gt 24, 3) := by decide +kernel
theorem dX6_eater_10 : decode cX6_eater 10 = .ok (.iload_n 2, 1) := by decide +kernel
theorem dX6_eater_11 : decode cX6_eater 11 = .ok (.iconst 1, 1) := by decide +kernel
theorem dX6_eater_12 : decode cX6_eater 12 = .ok (.if_icmp .lt 19, 3) := by decide +kernel
theorem dX6_eater_15 : decode cX6_eater 15 = .ok (.iload_n 2, 1) := by decide +kernel
theorem dX6_eater_16 : decode cX6_eater 16 = .ok (.bipush 9, 2) := by decide +kernel
theorem dX6_eater_18 : decode cX6_eater 18 = .ok (.if_icmp .gt 13, 3) := by decide +kernel
theorem dX6_eater_21 : decode cX6_eater 21 = .ok (.iload_n 3, 1) := by decide +kernel
theorem dX6_eater_22 : decode cX6_eater 22 = .ok (.ifCond .lt 9, 3) := by decide +kernel
theorem dX6_eater_25 : decode cX6_eater 25 = .ok (.iload_n 3, 1) := by decide +kernel
theorem dX6_eater_26 : decode cX6_eater 26 = .ok (.bipush 99, 2) := by decide +kernel
theorem dX6_eater_28 : decode cX6_eater 28 = .ok (.if_icmp .le 5, 3) := by decide +kernel
theorem dX6_eater_31 : decode cX6_eater 31 = .ok (.iconst (-1), 1) := by decide +kernel
theorem dX6_eater_32 : decode cX6_eater 32 = .ok (.ireturn, 1) := by decide +kernel
theorem dX6_eater_33 : decode cX6_eater 33 = .ok (.aload_n 0, 1) := by decide +kernel
theorem dX6_eater_34 : decode cX6_eater 34 = .ok (.getfield 27, 3) := by decide +kernel
theorem dX6_eater_37 : decode cX6_eater 37 = .ok (.getfield 77, 3) := by decide +kernel
theorem dX6_eater_40 : decode cX6_eater 40 = .ok (.istore 4, 2) := by decide +kernel
theorem dX6_eater_42 : decode cX6_eater 42 = .ok (.iload 4, 2) := by decide +kernel
theorem dX6_eater_44 : decode cX6_eater 44 = .ok (.ifCond .lt 10, 3) := by decide +kernel
theorem dX6_eater_47 : decode cX6_eater 47 = .ok (.iload 4, 2) := by decide +kernel
theorem dX6_eater_49 : decode cX6_eater 49 = .ok (.bipush 9, 2) := by decide +kernel
theorem dX6_eater_51 : decode cX6_eater 51 = .ok (.if_icmp .lt 5, 3) := by decide +kernel
theorem dX6_eater_54 : decode cX6_eater 54 = .ok (.iconst (-1), 1) := by decide +kernel
theorem dX6_eater_55 : decode cX6_eater 55 = .ok (.ireturn, 1) := by decide +kernel
theorem dX6_eater_56 : decode cX6_eater 56 = .ok (.aload_n 0, 1) := by decide +kernel
theorem dX6_eater_57 : decode cX6_eater 57 = .ok (.invokevirtual 65, 3) := by decide +kernel
theorem dX6_eater_60 : decode cX6_eater 60 = .ok (.aload_n 0, 1) := by decide +kernel
theorem dX6_eater_61 : decode cX6_eater 61 = .ok (.getfield 27, 3) := by decide +kernel
theorem dX6_eater_64 : decode cX6_eater 64 = .ok (.getfield 80, 3) := by decide +kernel
theorem dX6_eater_67 : decode cX6_eater 67 = .ok (.iload 4, 2) := by decide +kernel
theorem dX6_eater_69 : decode cX6_eater 69 = .ok (.iload_n 1, 1) := by decide +kernel
theorem dX6_eater_70 : decode cX6_eater 70 = .ok (.iastore, 1) := by decide +kernel
theorem dX6_eater_71 : decode cX6_eater 71 = .ok (.aload_n 0, 1) := by decide +kernel
theorem dX6_eater_72 : decode cX6_eater 72 = .ok (.getfield 27, 3) := by decide +kernel
theorem dX6_eater_75 : decode cX6_eater 75 = .ok (.getfield 83, 3) := by decide +kernel
theorem dX6_eater_78 : decode cX6_eater 78 = .ok (.iload 4, 2) := by decide +kernel
theorem dX6_eater_80 : decode cX6_eater 80 = .ok (.iload_n 2, 1) := by decide +kernel
theorem dX6_eater_81 : decode cX6_eater 81 = .ok (.iastore, 1) := by decide +kernel
theorem dX6_eater_82 : decode cX6_eater 82 = .ok (.aload_n 0, 1) := by decide +kernel
theorem dX6_eater_83 : decode cX6_eater 83 = .ok (.getfield 27, 3) := by decide +kernel
theorem dX6_eater_86 : decode cX6_eater 86 = .ok (.getfield 86, 3) := by decide +kernel
theorem dX6_eater_89 : decode cX6_eater 89 = .ok (.iload 4, 2) := by decide +kernel
theorem dX6_eater_91 : decode cX6_eater 91 = .ok (.iload_n 3, 1) := by decide +kernel
theorem dX6_eater_92 : decode cX6_eater 92 = .ok (.iastore, 1) := by decide +kernel
theorem dX6_eater_93 : decode cX6_eater 93 = .ok (.aload_n 0, 1) := by decide +kernel
theorem dX6_eater_94 : decode cX6_eater 94 = .ok (.getfield 27, 3) := by decide +kernel
theorem dX6_eater_97 : decode cX6_eater 97 = .ok (.iload 4, 2) := by decide +kernel
theorem dX6_eater_99 : decode cX6_eater 99 = .ok (.iconst 1, 1) := by decide +kernel
theorem dX6_eater_100 : decode cX6_eater 100 = .ok (.iadd, 1) := by decide +kernel
theorem dX6_eater_101 : decode cX6_eater 101 = .ok (.putfield 77, 3) := by decide +kernel
theorem dX6_eater_104 : decode cX6_eater 104 = .ok (.iload 4, 2) := by decide +kernel
theorem dX6_eater_106 : decode cX6_eater 106 = .ok (.ireturn, 1) := by decide +kernel
theorem dX6_seed_0 : decode cX6_seed 0 = .ok (.iload_n 1, 1) := by decide +kernel
theorem dX6_seed_1 : decode cX6_seed 1 = .ok (.ifCond .lt 10, 3) := by decide +kernel
theorem dX6_seed_4 : decode cX6_seed 4 = .ok (.iload_n 1, 1) := by decide +kernel
theorem dX6_seed_5 : decode cX6_seed 5 = .ok (.sipush 9999, 3) := by decide +kernel
theorem dX6_seed_8 : decode cX6_seed 8 = .ok (.if_icmp .le 5, 3) := by decide +kernel
theorem dX6_seed_11 : decode cX6_seed 11 = .ok (.iconst 0, 1) := by decide +kernel
theorem dX6_seed_12 : decode cX6_seed 12 = .ok (.ireturn, 1) := by decide +kernel
theorem dX6_seed_13 : decode cX6_seed 13 = .ok (.aload_n 0, 1) := by decide +kernel
theorem dX6_seed_14 : decode cX6_seed 14 = .ok (.getfield 27, 3) := by decide +kernel
theorem dX6_seed_17 : decode cX6_seed 17 = .ok (.getfield 68, 3) := by decide +kernel
theorem dX6_seed_20 : decode cX6_seed 20 = .ok (.iload_n 1, 1) := by decide +kernel
theorem dX6_seed_21 : decode cX6_seed 21 = .ok (.iconst 5, 1) := by decide +kernel
theorem dX6_seed_22 : decode cX6_seed 22 = .ok (.imul, 1) := by decide +kernel
theorem dX6_seed_23 : decode cX6_seed 23 = .ok (.iconst 3, 1) := by decide +kernel
theorem dX6_seed_24 : decode cX6_seed 24 = .ok (.iadd, 1) := by decide +kernel
theorem dX6_seed_25 : decode cX6_seed 25 = .ok (.putfield 89, 3) := by decide +kernel
theorem dX6_seed_28 : decode cX6_seed 28 = .ok (.iconst 1, 1) := by decide +kernel
theorem dX6_seed_29 : decode cX6_seed 29 = .ok (.ireturn, 1) := by decide +kernel
theorem dX6_sit_0 : decode cX6_sit 0 = .ok (.aload_n 0, 1) := by decide +kernel
theorem dX6_sit_1 : decode cX6_sit 1 = .ok (.iload_n 1, 1) := by decide +kernel
theorem dX6_sit_2 : decode cX6_sit 2 = .ok (.invokevirtual 92, 3) := by decide +kernel
theorem dX6_sit_5 : decode cX6_sit 5 = .ok (.ifCond .eq 31, 3) := by decide +kernel
theorem dX6_sit_8 : decode cX6_sit 8 = .ok (.iload_n 2, 1) := by decide +kernel
theorem dX6_sit_9 : decode cX6_sit 9 = .ok (.invokestatic 58, 3) := by decide +kernel
theorem dX6_sit_12 : decode cX6_sit 12 = .ok (.ifCond .ne 8, 3) := by decide +kernel
theorem dX6_sit_15 : decode cX6_sit 15 = .ok (.iload_n 2, 1) := by decide +kernel
theorem dX6_sit_16 : decode cX6_sit 16 = .ok (.iconst 2, 1) := by decide +kernel
theorem dX6_sit_17 : decode cX6_sit 17 = .ok (.if_icmp .ne 19, 3) := by decide +kernel
theorem dX6_sit_20 : decode cX6_sit 20 = .ok (.aload_n 0, 1) := by decide +kernel
theorem dX6_sit_21 : decode cX6_sit 21 = .ok (.getfield 27, 3) := by decide +kernel
theorem dX6_sit_24 : decode cX6_sit 24 = .ok (.getfield 68, 3) := by decide +kernel
theorem dX6_sit_27 : decode cX6_sit 27 = .ok (.getfield 95, 3) := by decide +kernel
theorem dX6_sit_30 : decode cX6_sit 30 = .ok (.iload_n 1, 1) := by decide +kernel
theorem dX6_sit_31 : decode cX6_sit 31 = .ok (.iaload, 1) := by decide +kernel
theorem dX6_sit_32 : decode cX6_sit 32 = .ok (.iload_n 2, 1) := by decide +kernel
theorem dX6_sit_33 : decode cX6_sit 33 = .ok (.if_icmp .ne 5, 3) := by decide +kernel
theorem dX6_sit_36 : decode cX6_sit 36 = .ok (.iconst 0, 1) := by decide +kernel
theorem dX6_sit_37 : decode cX6_sit 37 = .ok (.ireturn, 1) := by decide +kernel
theorem dX6_sit_38 : decode cX6_sit 38 = .ok (.aload_n 0, 1) := by decide +kernel
theorem dX6_sit_39 : decode cX6_sit 39 = .ok (.invokevirtual 65, 3) := by decide +kernel
theorem dX6_sit_42 : decode cX6_sit 42 = .ok (.aload_n 0, 1) := by decide +kernel
theorem dX6_sit_43 : decode cX6_sit 43 = .ok (.getfield 27, 3) := by decide +kernel
theorem dX6_sit_46 : decode cX6_sit 46 = .ok (.invokevirtual 98, 3) := by decide +kernel
theorem dX6_sit_49 : decode cX6_sit 49 = .ok (.aload_n 0, 1) := by decide +kernel
theorem dX6_sit_50 : decode cX6_sit 50 = .ok (.getfield 27, 3) := by decide +kernel
theorem dX6_sit_53 : decode cX6_sit 53 = .ok (.getfield 68, 3) := by decide +kernel
theorem dX6_sit_56 : decode cX6_sit 56 = .ok (.getfield 95, 3) := by decide +kernel
theorem dX6_sit_59 : decode cX6_sit 59 = .ok (.iload_n 1, 1) := by decide +kernel
theorem dX6_sit_60 : decode cX6_sit 60 = .ok (.iload_n 2, 1) := by decide +kernel
theorem dX6_sit_61 : decode cX6_sit 61 = .ok (.iastore, 1) := by decide +kernel
theorem dX6_sit_62 : decode cX6_sit 62 = .ok (.iconst 1, 1) := by decide +kernel
theorem dX6_sit_63 : decode cX6_sit 63 = .ok (.ireturn, 1) := by decide +kernel
theorem dX6_spoon_0 : decode cX6_spoon 0 = .ok (.aload_n 0, 1) := by decide +kernel
theorem dX6_spoon_1 : decode cX6_spoon 1 = .ok (.iload_n 1, 1) := by decide +kernel
theorem dX6_spoon_2 : decode cX6_spoon 2 = .ok (.invokevirtual 92, 3) := by decide +kernel
theorem dX6_spoon_5 : decode cX6_spoon 5 = .ok (.ifCond .eq 25, 3) := by decide +kernel
theorem dX6_spoon_8 : decode cX6_spoon 8 = .ok (.iload_n 2, 1) := by decide +kernel
theorem dX6_spoon_9 : decode cX6_spoon 9 = .ok (.invokestatic 62, 3) := by decide +kernel
theorem dX6_spoon_12 : decode cX6_spoon 12 = .ok (.ifCond .eq 18, 3) := by decide +kernel
theorem dX6_spoon_15 : decode cX6_spoon 15 = .ok (.aload_n 0, 1) := by decide +kernel
theorem dX6_spoon_16 : decode cX6_spoon 16 = .ok (.getfield 27, 3) := by decide +kernel
theorem dX6_spoon_19 : decode cX6_spoon 19 = .ok (.getfield 68, 3) := by decide +kernel
theorem dX6_spoon_22 : decode cX6_spoon 22 = .ok (.getfield 101, 3) := by decide +kernel
theorem dX6_spoon_25 : decode cX6_spoon 25 = .ok (.bipush 60, 2) := by decide +kernel
theorem dX6_spoon_27 : decode cX6_spoon 27 = .ok (.if_icmp .lt 5, 3) := by decide +kernel
theorem dX6_spoon_30 : decode cX6_spoon 30 = .ok (.iconst (-1), 1) := by decide +kernel
theorem dX6_spoon_31 : decode cX6_spoon 31 = .ok (.ireturn, 1) := by decide +kernel
theorem dX6_spoon_32 : decode cX6_spoon 32 = .ok (.aload_n 0, 1) := by decide +kernel
theorem dX6_spoon_33 : decode cX6_spoon 33 = .ok (.getfield 20, 3) := by decide +kernel
theorem dX6_spoon_36 : decode cX6_spoon 36 = .ok (.aload_n 0, 1) := by decide +kernel
theorem dX6_spoon_37 : decode cX6_spoon 37 = .ok (.getfield 27, 3) := by decide +kernel
theorem dX6_spoon_40 : decode cX6_spoon 40 = .ok (.getfield 68, 3) := by decide +kernel
theorem dX6_spoon_43 : decode cX6_spoon 43 = .ok (.iload_n 1, 1) := by decide +kernel
theorem dX6_spoon_44 : decode cX6_spoon 44 = .ok (.iload_n 2, 1) := by decide +kernel
theorem dX6_spoon_45 : decode cX6_spoon 45 = .ok (.invokevirtual 104, 3) := by decide +kernel
theorem dX6_spoon_48 : decode cX6_spoon 48 = .ok (.istore_n 3, 1) := by decide +kernel
theorem dX6_spoon_49 : decode cX6_spoon 49 = .ok (.iload_n 3, 1) := by decide +kernel
theorem dX6_spoon_50 : decode cX6_spoon 50 = .ok (.iconst 1, 1) := by decide +kernel
theorem dX6_spoon_51 : decode cX6_spoon 51 = .ok (.if_icmp .ge 5, 3) := by decide +kernel
theorem dX6_spoon_54 : decode cX6_spoon 54 = .ok (.iconst (-1), 1) := by decide +kernel
theorem dX6_spoon_55 : decode cX6_spoon 55 = .ok (.ireturn, 1) := by decide +kernel
theorem dX6_spoon_56 : decode cX6_spoon 56 = .ok (.aload_n 0, 1) := by decide +kernel
theorem dX6_spoon_57 : decode cX6_spoon 57 = .ok (.invokevirtual 65, 3) := by decide +kernel
theorem dX6_spoon_60 : decode cX6_spoon 60 = .ok (.aload_n 0, 1) := by decide +kernel
theorem dX6_spoon_61 : decode cX6_spoon 61 = .ok (.getfield 27, 3) := by decide +kernel
theorem dX6_spoon_64 : decode cX6_spoon 64 = .ok (.invokevirtual 98, 3) := by decide +kernel
theorem dX6_spoon_67 : decode cX6_spoon 67 = .ok (.aload_n 0, 1) := by decide +kernel
theorem dX6_spoon_68 : decode cX6_spoon 68 = .ok (.getfield 27, 3) := by decide +kernel
theorem dX6_spoon_71 : decode cX6_spoon 71 = .ok (.iload_n 1, 1) := by decide +kernel
theorem dX6_spoon_72 : decode cX6_spoon 72 = .ok (.iload_n 2, 1) := by decide +kernel
theorem dX6_spoon_73 : decode cX6_spoon 73 = .ok (.iload_n 3, 1) := by decide +kernel
theorem dX6_spoon_74 : decode cX6_spoon 74 = .ok (.invokevirtual 108, 3) := by decide +kernel
theorem dX6_spoon_77 : decode cX6_spoon 77 = .ok (.aload_n 0, 1) := by decide +kernel
theorem dX6_spoon_78 : decode cX6_spoon 78 = .ok (.getfield 27, 3) := by decide +kernel
theorem dX6_spoon_81 : decode cX6_spoon 81 = .ok (.getfield 68, 3) := by decide +kernel
theorem dX6_spoon_84 : decode cX6_spoon 84 = .ok (.iload_n 1, 1) := by decide +kernel
theorem dX6_spoon_85 : decode cX6_spoon 85 = .ok (.iload_n 2, 1) := by decide +kernel
theorem dX6_spoon_86 : decode cX6_spoon 86 = .ok (.iload_n 3, 1) := by decide +kernel
theorem dX6_spoon_87 : decode cX6_spoon 87 = .ok (.invokevirtual 112, 3) := by decide +kernel
theorem dX6_spoon_90 : decode cX6_spoon 90 = .ok (.iload_n 3, 1) := by decide +kernel
theorem dX6_spoon_91 : decode cX6_spoon 91 = .ok (.ireturn, 1) := by decide +kernel
theorem dX6_judge_0 : decode cX6_judge 0 = .ok (.iload_n 1, 1) := by decide +kernel
theorem dX6_judge_1 : decode cX6_judge 1 = .ok (.invokestatic 58, 3) := by decide +kernel
theorem dX6_judge_4 : decode cX6_judge 4 = .ok (.ifCond .eq 18, 3) := by decide +kernel
theorem dX6_judge_7 : decode cX6_judge 7 = .ok (.aload_n 0, 1) := by decide +kernel
theorem dX6_judge_8 : decode cX6_judge 8 = .ok (.getfield 27, 3) := by decide +kernel
theorem dX6_judge_11 : decode cX6_judge 11 = .ok (.getfield 68, 3) := by decide +kernel
theorem dX6_judge_14 : decode cX6_judge 14 = .ok (.getfield 115, 3) := by decide +kernel
theorem dX6_judge_17 : decode cX6_judge 17 = .ok (.bipush 30, 2) := by decide +kernel
theorem dX6_judge_19 : decode cX6_judge 19 = .ok (.if_icmp .lt 5, 3) := by decide +kernel
theorem dX6_judge_22 : decode cX6_judge 22 = .ok (.iconst (-1), 1) := by decide +kernel
theorem dX6_judge_23 : decode cX6_judge 23 = .ok (.ireturn, 1) := by decide +kernel
theorem dX6_judge_24 : decode cX6_judge 24 = .ok (.aload_n 0, 1) := by decide +kernel
theorem dX6_judge_25 : decode cX6_judge 25 = .ok (.getfield 20, 3) := by decide +kernel
theorem dX6_judge_28 : decode cX6_judge 28 = .ok (.aload_n 0, 1) := by decide +kernel
theorem dX6_judge_29 : decode cX6_judge 29 = .ok (.getfield 27, 3) := by decide +kernel
theorem dX6_judge_32 : decode cX6_judge 32 = .ok (.getfield 68, 3) := by decide +kernel
theorem dX6_judge_35 : decode cX6_judge 35 = .ok (.iload_n 1, 1) := by decide +kernel
theorem dX6_judge_36 : decode cX6_judge 36 = .ok (.invokevirtual 118, 3) := by decide +kernel
theorem dX6_judge_39 : decode cX6_judge 39 = .ok (.ifCond .eq 7, 3) := by decide +kernel
theorem dX6_judge_42 : decode cX6_judge 42 = .ok (.iconst 1, 1) := by decide +kernel
theorem dX6_judge_43 : decode cX6_judge 43 = .ok (.goto 4, 3) := by decide +kernel
theorem dX6_judge_46 : decode cX6_judge 46 = .ok (.iconst 0, 1) := by decide +kernel
theorem dX6_judge_47 : decode cX6_judge 47 = .ok (.istore_n 2, 1) := by decide +kernel
theorem dX6_judge_48 : decode cX6_judge 48 = .ok (.aload_n 0, 1) := by decide +kernel
theorem dX6_judge_49 : decode cX6_judge 49 = .ok (.invokevirtual 65, 3) := by decide +kernel
theorem dX6_judge_52 : decode cX6_judge 52 = .ok (.aload_n 0, 1) := by decide +kernel
theorem dX6_judge_53 : decode cX6_judge 53 = .ok (.getfield 27, 3) := by decide +kernel
theorem dX6_judge_56 : decode cX6_judge 56 = .ok (.invokevirtual 98, 3) := by decide +kernel
theorem dX6_judge_59 : decode cX6_judge 59 = .ok (.aload_n 0, 1) := by decide +kernel
theorem dX6_judge_60 : decode cX6_judge 60 = .ok (.getfield 27, 3) := by decide +kernel
theorem dX6_judge_63 : decode cX6_judge 63 = .ok (.iload_n 1, 1) := by decide +kernel
theorem dX6_judge_64 : decode cX6_judge 64 = .ok (.iload_n 2, 1) := by decide +kernel
theorem dX6_judge_65 : decode cX6_judge 65 = .ok (.invokevirtual 122, 3) := by decide +kernel
theorem dX6_judge_68 : decode cX6_judge 68 = .ok (.iload_n 2, 1) := by decide +kernel
theorem dX6_judge_69 : decode cX6_judge 69 = .ok (.ireturn, 1) := by decide +kernel
theorem dX6_flies_0 : decode cX6_flies 0 = .ok (.iload_n 1, 1) := by decide +kernel
theorem dX6_flies_1 : decode cX6_flies 1 = .ok (.iconst 1, 1) := by decide +kernel
theorem dX6_flies_2 : decode cX6_flies 2 = .ok (.if_icmp .lt 9, 3) := by decide +kernel
theorem dX6_flies_5 : decode cX6_flies 5 = .ok (.iload_n 1, 1) := by decide +kernel
theorem dX6_flies_6 : decode cX6_flies 6 = .ok (.bipush 40, 2) := by decide +kernel
theorem dX6_flies_8 : decode cX6_flies 8 = .ok (.if_icmp .le 5, 3) := by decide +kernel
theorem dX6_flies_11 : decode cX6_flies 11 = .ok (.iconst (-1), 1) := by decide +kernel
theorem dX6_flies_12 : decode cX6_flies 12 = .ok (.ireturn, 1) := by decide +kernel
theorem dX6_flies_13 : decode cX6_flies 13 = .ok (.aload_n 0, 1) := by decide +kernel
theorem dX6_flies_14 : decode cX6_flies 14 = .ok (.invokevirtual 65, 3) := by decide +kernel
theorem dX6_flies_17 : decode cX6_flies 17 = .ok (.aload_n 0, 1) := by decide +kernel
theorem dX6_flies_18 : decode cX6_flies 18 = .ok (.getfield 27, 3) := by decide +kernel
theorem dX6_flies_21 : decode cX6_flies 21 = .ok (.invokevirtual 98, 3) := by decide +kernel
theorem dX6_flies_24 : decode cX6_flies 24 = .ok (.iconst 0, 1) := by decide +kernel
theorem dX6_flies_25 : decode cX6_flies 25 = .ok (.istore_n 2, 1) := by decide +kernel
theorem dX6_flies_26 : decode cX6_flies 26 = .ok (.iconst 0, 1) := by decide +kernel
theorem dX6_flies_27 : decode cX6_flies 27 = .ok (.istore_n 3, 1) := by decide +kernel
theorem dX6_flies_28 : decode cX6_flies 28 = .ok (.iload_n 3, 1) := by decide +kernel
theorem dX6_flies_29 : decode cX6_flies 29 = .ok (.iload_n 1, 1) := by decide +kernel
theorem dX6_flies_30 : decode cX6_flies 30 = .ok (.if_icmp .ge 57, 3) := by decide +kernel
theorem dX6_flies_33 : decode cX6_flies 33 = .ok (.aload_n 0, 1) := by decide +kernel
theorem dX6_flies_34 : decode cX6_flies 34 = .ok (.getfield 27, 3) := by decide +kernel
theorem dX6_flies_37 : decode cX6_flies 37 = .ok (.getfield 68, 3) := by decide +kernel
theorem dX6_flies_40 : decode cX6_flies 40 = .ok (.invokevirtual 126, 3) := by decide +kernel
theorem dX6_flies_43 : decode cX6_flies 43 = .ok (.istore 4, 2) := by decide +kernel
theorem dX6_flies_45 : decode cX6_flies 45 = .ok (.aload_n 0, 1) := by decide +kernel
theorem dX6_flies_46 : decode cX6_flies 46 = .ok (.getfield 27, 3) := by decide +kernel
theorem dX6_flies_49 : decode cX6_flies 49 = .ok (.getfield 68, 3) := by decide +kernel
theorem dX6_flies_52 : decode cX6_flies 52 = .ok (.getfield 72, 3) := by decide +kernel
theorem dX6_flies_55 : decode cX6_flies 55 = .ok (.iload 4, 2) := by decide +kernel
theorem dX6_flies_57 : decode cX6_flies 57 = .ok (.iaload, 1) := by decide +kernel
theorem dX6_flies_58 : decode cX6_flies 58 = .ok (.ifCond .le 23, 3) := by decide +kernel
theorem dX6_flies_61 : decode cX6_flies 61 = .ok (.aload_n 0, 1) := by decide +kernel
theorem dX6_flies_62 : decode cX6_flies 62 = .ok (.getfield 27, 3) := by decide +kernel
theorem dX6_flies_65 : decode cX6_flies 65 = .ok (.getfield 68, 3) := by decide +kernel
theorem dX6_flies_68 : decode cX6_flies 68 = .ok (.getfield 72, 3) := by decide +kernel
theorem dX6_flies_71 : decode cX6_flies 71 = .ok (.iload 4, 2) := by decide +kernel
theorem dX6_flies_73 : decode cX6_flies 73 = .ok (.dup2, 1) := by decide +kernel
theorem dX6_flies_74 : decode cX6_flies 74 = .ok (.iaload, 1) := by decide +kernel
theorem dX6_flies_75 : decode cX6_flies 75 = .ok (.iconst 1, 1) := by decide +kernel
theorem dX6_flies_76 : decode cX6_flies 76 = .ok (.isub, 1) := by decide +kernel
theorem dX6_flies_77 : decode cX6_flies 77 = .ok (.iastore, 1) := by decide +kernel
theorem dX6_flies_78 : decode cX6_flies 78 = .ok (.iinc 2 1, 3) := by decide +kernel
theorem dX6_flies_81 : decode cX6_flies 81 = .ok (.iinc 3 1, 3) := by decide +kernel
theorem dX6_flies_84 : decode cX6_flies 84 = .ok (.goto (-56), 3) := by decide +kernel
theorem dX6_flies_87 : decode cX6_flies 87 = .ok (.iload_n 2, 1) := by decide +kernel
theorem dX6_flies_88 : decode cX6_flies 88 = .ok (.ireturn, 1) := by decide +kernel
theorem dX6_feed_0 : decode cX6_feed 0 = .ok (.aload_n 0, 1) := by decide +kernel
theorem dX6_feed_1 : decode cX6_feed 1 = .ok (.getfield 45, 3) := by decide +kernel
theorem dX6_feed_4 : decode cX6_feed 4 = .ok (.sipush 280, 3) := by decide +kernel
theorem dX6_feed_7 : decode cX6_feed 7 = .ok (.if_icmp .le 5, 3) := by decide +kernel
theorem dX6_feed_10 : decode cX6_feed 10 = .ok (.iconst (-1), 1) := by decide +kernel
theorem dX6_feed_11 : decode cX6_feed 11 = .ok (.ireturn, 1) := by decide +kernel
theorem dX6_feed_12 : decode cX6_feed 12 = .ok (.aload_n 0, 1) := by decide +kernel
theorem dX6_feed_13 : decode cX6_feed 13 = .ok (.iload_n 1, 1) := by decide +kernel
theorem dX6_feed_14 : decode cX6_feed 14 = .ok (.invokevirtual 130, 3) := by decide +kernel
theorem dX6_feed_17 : decode cX6_feed 17 = .ok (.aload_n 0, 1) := by decide +kernel
theorem dX6_feed_18 : decode cX6_feed 18 = .ok (.iload_n 2, 1) := by decide +kernel
theorem dX6_feed_19 : decode cX6_feed 19 = .ok (.invokevirtual 130, 3) := by decide +kernel
theorem dX6_feed_22 : decode cX6_feed 22 = .ok (.aload_n 0, 1) := by decide +kernel
theorem dX6_feed_23 : decode cX6_feed 23 = .ok (.iload_n 3, 1) := by decide +kernel
theorem dX6_feed_24 : decode cX6_feed 24 = .ok (.invokevirtual 130, 3) := by decide +kernel
theorem dX6_feed_27 : decode cX6_feed 27 = .ok (.aload_n 0, 1) := by decide +kernel
theorem dX6_feed_28 : decode cX6_feed 28 = .ok (.iload 4, 2) := by decide +kernel
theorem dX6_feed_30 : decode cX6_feed 30 = .ok (.invokevirtual 130, 3) := by decide +kernel
theorem dX6_feed_33 : decode cX6_feed 33 = .ok (.aload_n 0, 1) := by decide +kernel
theorem dX6_feed_34 : decode cX6_feed 34 = .ok (.iload 5, 2) := by decide +kernel
theorem dX6_feed_36 : decode cX6_feed 36 = .ok (.invokevirtual 130, 3) := by decide +kernel
theorem dX6_feed_39 : decode cX6_feed 39 = .ok (.aload_n 0, 1) := by decide +kernel
theorem dX6_feed_40 : decode cX6_feed 40 = .ok (.getfield 45, 3) := by decide +kernel
theorem dX6_feed_43 : decode cX6_feed 43 = .ok (.ireturn, 1) := by decide +kernel
theorem dX6_end_0 : decode cX6_end 0 = .ok (.iload_n 1, 1) := by decide +kernel
theorem dX6_end_1 : decode cX6_end 1 = .ok (.ifCond .lt 11, 3) := by decide +kernel
theorem dX6_end_4 : decode cX6_end 4 = .ok (.iload_n 1, 1) := by decide +kernel
theorem dX6_end_5 : decode cX6_end 5 = .ok (.aload_n 0, 1) := by decide +kernel
theorem dX6_end_6 : decode cX6_end 6 = .ok (.getfield 45, 3) := by decide +kernel
theorem dX6_end_9 : decode cX6_end 9 = .ok (.if_icmp .le 5, 3) := by decide +kernel
theorem dX6_end_12 : decode cX6_end 12 = .ok (.iconst (-1), 1) := by decide +kernel
theorem dX6_end_13 : decode cX6_end 13 = .ok (.ireturn, 1) := by decide +kernel
theorem dX6_end_14 : decode cX6_end 14 = .ok (.aload_n 0, 1) := by decide +kernel
theorem dX6_end_15 : decode cX6_end 15 = .ok (.iload_n 1, 1) := by decide +kernel
theorem dX6_end_16 : decode cX6_end 16 = .ok (.putfield 45, 3) := by decide +kernel
theorem dX6_end_19 : decode cX6_end 19 = .ok (.iload_n 1, 1) := by decide +kernel
theorem dX6_end_20 : decode cX6_end 20 = .ok (.ireturn, 1) := by decide +kernel
theorem dX6_text_0 : decode cX6_text 0 = .ok (.aload_n 0, 1) := by decide +kernel
theorem dX6_text_1 : decode cX6_text 1 = .ok (.getfield 27, 3) := by decide +kernel
theorem dX6_text_4 : decode cX6_text 4 = .ok (.getfield 134, 3) := by decide +kernel
theorem dX6_text_7 : decode cX6_text 7 = .ok (.istore_n 1, 1) := by decide +kernel
theorem dX6_text_8 : decode cX6_text 8 = .ok (.iload_n 1, 1) := by decide +kernel
theorem dX6_text_9 : decode cX6_text 9 = .ok (.ifCond .lt 8, 3) := by decide +kernel
theorem dX6_text_12 : decode cX6_text 12 = .ok (.iload_n 1, 1) := by decide +kernel
theorem dX6_text_13 : decode cX6_text 13 = .ok (.iconst 4, 1) := by decide +kernel
theorem dX6_text_14 : decode cX6_text 14 = .ok (.if_icmp .lt 5, 3) := by decide +kernel
theorem dX6_text_17 : decode cX6_text 17 = .ok (.iconst (-1), 1) := by decide +kernel
theorem dX6_text_18 : decode cX6_text 18 = .ok (.ireturn, 1) := by decide +kernel
theorem dX6_text_19 : decode cX6_text 19 = .ok (.aload_n 0, 1) := by decide +kernel
theorem dX6_text_20 : decode cX6_text 20 = .ok (.getfield 37, 3) := by decide +kernel
theorem dX6_text_23 : decode cX6_text 23 = .ok (.aload_n 0, 1) := by decide +kernel
theorem dX6_text_24 : decode cX6_text 24 = .ok (.getfield 45, 3) := by decide +kernel
theorem dX6_text_27 : decode cX6_text 27 = .ok (.aload_n 0, 1) := by decide +kernel
theorem dX6_text_28 : decode cX6_text 28 = .ok (.getfield 20, 3) := by decide +kernel
theorem dX6_text_31 : decode cX6_text 31 = .ok (.getfield 137, 3) := by decide +kernel
theorem dX6_text_34 : decode cX6_text 34 = .ok (.iload_n 1, 1) := by decide +kernel
theorem dX6_text_35 : decode cX6_text 35 = .ok (.aaload, 1) := by decide +kernel
theorem dX6_text_36 : decode cX6_text 36 = .ok (.invokevirtual 141, 3) := by decide +kernel
theorem dX6_text_39 : decode cX6_text 39 = .ok (.aload_n 0, 1) := by decide +kernel
theorem dX6_text_40 : decode cX6_text 40 = .ok (.iconst 0, 1) := by decide +kernel
theorem dX6_text_41 : decode cX6_text 41 = .ok (.putfield 45, 3) := by decide +kernel
theorem dX6_text_44 : decode cX6_text 44 = .ok (.aload_n 0, 1) := by decide +kernel
theorem dX6_text_45 : decode cX6_text 45 = .ok (.aload_n 0, 1) := by decide +kernel
theorem dX6_text_46 : decode cX6_text 46 = .ok (.getfield 37, 3) := by decide +kernel
theorem dX6_text_49 : decode cX6_text 49 = .ok (.getfield 145, 3) := by decide +kernel
theorem dX6_text_52 : decode cX6_text 52 = .ok (.putfield 49, 3) := by decide +kernel
theorem dX6_text_55 : decode cX6_text 55 = .ok (.aload_n 0, 1) := by decide +kernel
theorem dX6_text_56 : decode cX6_text 56 = .ok (.aload_n 0, 1) := by decide +kernel
theorem dX6_text_57 : decode cX6_text 57 = .ok (.getfield 37, 3) := by decide +kernel
theorem dX6_text_60 : decode cX6_text 60 = .ok (.getfield 148, 3) := by decide +kernel
theorem dX6_text_63 : decode cX6_text 63 = .ok (.putfield 52, 3) := by decide +kernel
theorem dX6_text_66 : decode cX6_text 66 = .ok (.aload_n 0, 1) := by decide +kernel
theorem dX6_text_67 : decode cX6_text 67 = .ok (.getfield 49, 3) := by decide +kernel
theorem dX6_text_70 : decode cX6_text 70 = .ok (.ifCond .eq 5, 3) := by decide +kernel
theorem dX6_text_73 : decode cX6_text 73 = .ok (.iconst (-1), 1) := by decide +kernel
theorem dX6_text_74 : decode cX6_text 74 = .ok (.ireturn, 1) := by decide +kernel
theorem dX6_text_75 : decode cX6_text 75 = .ok (.aload_n 0, 1) := by decide +kernel
theorem dX6_text_76 : decode cX6_text 76 = .ok (.getfield 27, 3) := by decide +kernel
theorem dX6_text_79 : decode cX6_text 79 = .ok (.iload_n 1, 1) := by decide +kernel
theorem dX6_text_80 : decode cX6_text 80 = .ok (.iconst 1, 1) := by decide +kernel
theorem dX6_text_81 : decode cX6_text 81 = .ok (.iadd, 1) := by decide +kernel
theorem dX6_text_82 : decode cX6_text 82 = .ok (.putfield 134, 3) := by decide +kernel
theorem dX6_text_85 : decode cX6_text 85 = .ok (.iload_n 1, 1) := by decide +kernel
theorem dX6_text_86 : decode cX6_text 86 = .ok (.ireturn, 1) := by decide +kernel
theorem dX6_fault_0 : decode cX6_fault 0 = .ok (.iload_n 1, 1) := by decide +kernel
theorem dX6_fault_1 : decode cX6_fault 1 = .ok (.ifCond .ne 8, 3) := by decide +kernel
theorem dX6_fault_4 : decode cX6_fault 4 = .ok (.aload_n 0, 1) := by decide +kernel
theorem dX6_fault_5 : decode cX6_fault 5 = .ok (.getfield 49, 3) := by decide +kernel
theorem dX6_fault_8 : decode cX6_fault 8 = .ok (.ireturn, 1) := by decide +kernel
theorem dX6_fault_9 : decode cX6_fault 9 = .ok (.iload_n 1, 1) := by decide +kernel
theorem dX6_fault_10 : decode cX6_fault 10 = .ok (.iconst 1, 1) := by decide +kernel
theorem dX6_fault_11 : decode cX6_fault 11 = .ok (.if_icmp .ne 10, 3) := by decide +kernel
theorem dX6_fault_14 : decode cX6_fault 14 = .ok (.aload_n 0, 1) := by decide +kernel
theorem dX6_fault_15 : decode cX6_fault 15 = .ok (.getfield 52, 3) := by decide +kernel
theorem dX6_fault_18 : decode cX6_fault 18 = .ok (.goto 4, 3) := by decide +kernel
theorem dX6_fault_21 : decode cX6_fault 21 = .ok (.iconst (-1), 1) := by decide +kernel
theorem dX6_fault_22 : decode cX6_fault 22 = .ok (.ireturn, 1) := by decide +kernel
theorem dX6_by_0 : decode cX6_by 0 = .ok (.iload_n 1, 1) := by decide +kernel
theorem dX6_by_1 : decode cX6_by 1 = .ok (.iconst (-1), 1) := by decide +kernel
theorem dX6_by_2 : decode cX6_by 2 = .ok (.if_icmp .eq 13, 3) := by decide +kernel
theorem dX6_by_5 : decode cX6_by 5 = .ok (.aload_n 0, 1) := by decide +kernel
theorem dX6_by_6 : decode cX6_by 6 = .ok (.iload_n 1, 1) := by decide +kernel
theorem dX6_by_7 : decode cX6_by 7 = .ok (.invokevirtual 151, 3) := by decide +kernel
theorem dX6_by_10 : decode cX6_by 10 = .ok (.ifCond .ne 5, 3) := by decide +kernel
theorem dX6_by_13 : decode cX6_by 13 = .ok (.iconst 0, 1) := by decide +kernel
theorem dX6_by_14 : decode cX6_by 14 = .ok (.ireturn, 1) := by decide +kernel
theorem dX6_by_15 : decode cX6_by 15 = .ok (.aload_n 0, 1) := by decide +kernel
theorem dX6_by_16 : decode cX6_by 16 = .ok (.invokevirtual 65, 3) := by decide +kernel
theorem dX6_by_19 : decode cX6_by 19 = .ok (.aload_n 0, 1) := by decide +kernel
theorem dX6_by_20 : decode cX6_by 20 = .ok (.getfield 27, 3) := by decide +kernel
theorem dX6_by_23 : decode cX6_by 23 = .ok (.iload_n 1, 1) := by decide +kernel
theorem dX6_by_24 : decode cX6_by 24 = .ok (.putfield 154, 3) := by decide +kernel
theorem dX6_by_27 : decode cX6_by 27 = .ok (.iconst 1, 1) := by decide +kernel
theorem dX6_by_28 : decode cX6_by 28 = .ok (.ireturn, 1) := by decide +kernel
theorem dX6_played_0 : decode cX6_played 0 = .ok (.aload_n 0, 1) := by decide +kernel
theorem dX6_played_1 : decode cX6_played 1 = .ok (.iload_n 1, 1) := by decide +kernel
theorem dX6_played_2 : decode cX6_played 2 = .ok (.invokevirtual 151, 3) := by decide +kernel
theorem dX6_played_5 : decode cX6_played 5 = .ok (.ifCond .ne 6, 3) := by decide +kernel
theorem dX6_played_8 : decode cX6_played 8 = .ok (.bipush (-2), 2) := by decide +kernel
theorem dX6_played_10 : decode cX6_played 10 = .ok (.ireturn, 1) := by decide +kernel
theorem dX6_played_11 : decode cX6_played 11 = .ok (.aload_n 0, 1) := by decide +kernel
theorem dX6_played_12 : decode cX6_played 12 = .ok (.getfield 20, 3) := by decide +kernel
theorem dX6_played_15 : decode cX6_played 15 = .ok (.getfield 137, 3) := by decide +kernel
theorem dX6_played_18 : decode cX6_played 18 = .ok (.iload_n 1, 1) := by decide +kernel
theorem dX6_played_19 : decode cX6_played 19 = .ok (.aaload, 1) := by decide +kernel
theorem dX6_played_20 : decode cX6_played 20 = .ok (.astore_n 2, 1) := by decide +kernel
theorem dX6_played_21 : decode cX6_played 21 = .ok (.iconst 0, 1) := by decide +kernel
theorem dX6_played_22 : decode cX6_played 22 = .ok (.istore_n 3, 1) := by decide +kernel
theorem dX6_played_23 : decode cX6_played 23 = .ok (.iload_n 3, 1) := by decide +kernel
theorem dX6_played_24 : decode cX6_played 24 = .ok (.aload_n 2, 1) := by decide +kernel
theorem dX6_played_25 : decode cX6_played 25 = .ok (.getfield 157, 3) := by decide +kernel
theorem dX6_played_28 : decode cX6_played 28 = .ok (.if_icmp .ge 26, 3) := by decide +kernel
theorem dX6_played_31 : decode cX6_played 31 = .ok (.iload_n 3, 1) := by decide +kernel
theorem dX6_played_32 : decode cX6_played 32 = .ok (.bipush 24, 2) := by decide +kernel
theorem dX6_played_34 : decode cX6_played 34 = .ok (.if_icmp .ge 20, 3) := by decide +kernel
theorem dX6_played_37 : decode cX6_played 37 = .ok (.aload_n 0, 1) := by decide +kernel
theorem dX6_played_38 : decode cX6_played 38 = .ok (.aload_n 2, 1) := by decide +kernel
theorem dX6_played_39 : decode cX6_played 39 = .ok (.iload_n 3, 1) := by decide +kernel
theorem dX6_played_40 : decode cX6_played 40 = .ok (.invokevirtual 162, 3) := by decide +kernel
theorem dX6_played_43 : decode cX6_played 43 = .ok (.ifCond .ne 5, 3) := by decide +kernel
theorem dX6_played_46 : decode cX6_played 46 = .ok (.iload_n 3, 1) := by decide +kernel
theorem dX6_played_47 : decode cX6_played 47 = .ok (.ireturn, 1) := by decide +kernel
theorem dX6_played_48 : decode cX6_played 48 = .ok (.iinc 3 1, 3) := by decide +kernel
theorem dX6_played_51 : decode cX6_played 51 = .ok (.goto (-28), 3) := by decide +kernel
theorem dX6_played_54 : decode cX6_played 54 = .ok (.iconst (-1), 1) := by decide +kernel
theorem dX6_played_55 : decode cX6_played 55 = .ok (.ireturn, 1) := by decide +kernel
theorem dX6_undo_0 : decode cX6_undo 0 = .ok (.aload_n 0, 1) := by decide +kernel
theorem dX6_undo_1 : decode cX6_undo 1 = .ok (.getfield 27, 3) := by decide +kernel
theorem dX6_undo_4 : decode cX6_undo 4 = .ok (.getfield 166, 3) := by decide +kernel
theorem dX6_undo_7 : decode cX6_undo 7 = .ok (.iconst 1, 1) := by decide +kernel
theorem dX6_undo_8 : decode cX6_undo 8 = .ok (.isub, 1) := by decide +kernel
theorem dX6_undo_9 : decode cX6_undo 9 = .ok (.istore_n 1, 1) := by decide +kernel
theorem dX6_undo_10 : decode cX6_undo 10 = .ok (.iload_n 1, 1) := by decide +kernel
theorem dX6_undo_11 : decode cX6_undo 11 = .ok (.ifCond .lt 9, 3) := by decide +kernel
theorem dX6_undo_14 : decode cX6_undo 14 = .ok (.iload_n 1, 1) := by decide +kernel
theorem dX6_undo_15 : decode cX6_undo 15 = .ok (.bipush 30, 2) := by decide +kernel
theorem dX6_undo_17 : decode cX6_undo 17 = .ok (.if_icmp .lt 5, 3) := by decide +kernel
theorem dX6_undo_20 : decode cX6_undo 20 = .ok (.iconst (-1), 1) := by decide +kernel
theorem dX6_undo_21 : decode cX6_undo 21 = .ok (.ireturn, 1) := by decide +kernel
theorem dX6_undo_22 : decode cX6_undo 22 = .ok (.aload_n 0, 1) := by decide +kernel
theorem dX6_undo_23 : decode cX6_undo 23 = .ok (.invokevirtual 65, 3) := by decide +kernel
theorem dX6_undo_26 : decode cX6_undo 26 = .ok (.aload_n 0, 1) := by decide +kernel
theorem dX6_undo_27 : decode cX6_undo 27 = .ok (.getfield 27, 3) := by decide +kernel
theorem dX6_undo_30 : decode cX6_undo 30 = .ok (.getfield 68, 3) := by decide +kernel
theorem dX6_undo_33 : decode cX6_undo 33 = .ok (.aload_n 0, 1) := by decide +kernel
theorem dX6_undo_34 : decode cX6_undo 34 = .ok (.getfield 27, 3) := by decide +kernel
theorem dX6_undo_37 : decode cX6_undo 37 = .ok (.getfield 169, 3) := by decide +kernel
theorem dX6_undo_40 : decode cX6_undo 40 = .ok (.iload_n 1, 1) := by decide +kernel
theorem dX6_undo_41 : decode cX6_undo 41 = .ok (.aaload, 1) := by decide +kernel
theorem dX6_undo_42 : decode cX6_undo 42 = .ok (.invokevirtual 173, 3) := by decide +kernel
theorem dX6_undo_45 : decode cX6_undo 45 = .ok (.aload_n 0, 1) := by decide +kernel
theorem dX6_undo_46 : decode cX6_undo 46 = .ok (.getfield 27, 3) := by decide +kernel
theorem dX6_undo_49 : decode cX6_undo 49 = .ok (.iload_n 1, 1) := by decide +kernel
theorem dX6_undo_50 : decode cX6_undo 50 = .ok (.putfield 166, 3) := by decide +kernel
theorem dX6_undo_53 : decode cX6_undo 53 = .ok (.iload_n 1, 1) := by decide +kernel
theorem dX6_undo_54 : decode cX6_undo 54 = .ok (.ireturn, 1) := by decide +kernel
theorem dX6_of_0 : decode cX6_of 0 = .ok (.aload_n 0, 1) := by decide +kernel
theorem dX6_of_1 : decode cX6_of 1 = .ok (.iload_n 1, 1) := by decide +kernel
theorem dX6_of_2 : decode cX6_of 2 = .ok (.invokevirtual 92, 3) := by decide +kernel
theorem dX6_of_5 : decode cX6_of 5 = .ok (.ifCond .ne 6, 3) := by decide +kernel
theorem dX6_of_8 : decode cX6_of 8 = .ok (.bipush (-2), 2) := by decide +kernel
theorem dX6_of_10 : decode cX6_of 10 = .ok (.ireturn, 1) := by decide +kernel
theorem dX6_of_11 : decode cX6_of 11 = .ok (.iload_n 2, 1) := by decide +kernel
theorem dX6_of_12 : decode cX6_of 12 = .ok (.tableswitch 154 0 7 #[48, 58, 68, 78, 91, 104, 120, 137], 48) := by decide +kernel
theorem dX6_of_60 : decode cX6_of 60 = .ok (.aload_n 0, 1) := by decide +kernel
theorem dX6_of_61 : decode cX6_of 61 = .ok (.getfield 27, 3) := by decide +kernel
theorem dX6_of_64 : decode cX6_of 64 = .ok (.getfield 80, 3) := by decide +kernel
theorem dX6_of_67 : decode cX6_of 67 = .ok (.iload_n 1, 1) := by decide +kernel
theorem dX6_of_68 : decode cX6_of 68 = .ok (.iaload, 1) := by decide +kernel
theorem dX6_of_69 : decode cX6_of 69 = .ok (.ireturn, 1) := by decide +kernel
theorem dX6_of_70 : decode cX6_of 70 = .ok (.aload_n 0, 1) := by decide +kernel
theorem dX6_of_71 : decode cX6_of 71 = .ok (.getfield 27, 3) := by decide +kernel
theorem dX6_of_74 : decode cX6_of 74 = .ok (.getfield 83, 3) := by decide +kernel
theorem dX6_of_77 : decode cX6_of 77 = .ok (.iload_n 1, 1) := by decide +kernel
theorem dX6_of_78 : decode cX6_of 78 = .ok (.iaload, 1) := by decide +kernel
theorem dX6_of_79 : decode cX6_of 79 = .ok (.ireturn, 1) := by decide +kernel
theorem dX6_of_80 : decode cX6_of 80 = .ok (.aload_n 0, 1) := by decide +kernel
theorem dX6_of_81 : decode cX6_of 81 = .ok (.getfield 27, 3) := by decide +kernel
theorem dX6_of_84 : decode cX6_of 84 = .ok (.getfield 86, 3) := by decide +kernel
theorem dX6_of_87 : decode cX6_of 87 = .ok (.iload_n 1, 1) := by decide +kernel
theorem dX6_of_88 : decode cX6_of 88 = .ok (.iaload, 1) := by decide +kernel
theorem dX6_of_89 : decode cX6_of 89 = .ok (.ireturn, 1) := by decide +kernel
theorem dX6_of_90 : decode cX6_of 90 = .ok (.aload_n 0, 1) := by decide +kernel
theorem dX6_of_91 : decode cX6_of 91 = .ok (.getfield 27, 3) := by decide +kernel
theorem dX6_of_94 : decode cX6_of 94 = .ok (.getfield 68, 3) := by decide +kernel
theorem dX6_of_97 : decode cX6_of 97 = .ok (.getfield 95, 3) := by decide +kernel
theorem dX6_of_100 : decode cX6_of 100 = .ok (.iload_n 1, 1) := by decide +kernel
theorem dX6_of_101 : decode cX6_of 101 = .ok (.iaload, 1) := by decide +kernel
theorem dX6_of_102 : decode cX6_of 102 = .ok (.ireturn, 1) := by decide +kernel
theorem dX6_of_103 : decode cX6_of 103 = .ok (.aload_n 0, 1) := by decide +kernel
theorem dX6_of_104 : decode cX6_of 104 = .ok (.getfield 27, 3) := by decide +kernel
theorem dX6_of_107 : decode cX6_of 107 = .ok (.getfield 68, 3) := by decide +kernel
theorem dX6_of_110 : decode cX6_of 110 = .ok (.getfield 177, 3) := by decide +kernel
theorem dX6_of_113 : decode cX6_of 113 = .ok (.iload_n 1, 1) := by decide +kernel
theorem dX6_of_114 : decode cX6_of 114 = .ok (.iaload, 1) := by decide +kernel
theorem dX6_of_115 : decode cX6_of 115 = .ok (.ireturn, 1) := by decide +kernel
theorem dX6_of_116 : decode cX6_of 116 = .ok (.aload_n 0, 1) := by decide +kernel
theorem dX6_of_117 : decode cX6_of 117 = .ok (.getfield 20, 3) := by decide +kernel
theorem dX6_of_120 : decode cX6_of 120 = .ok (.aload_n 0, 1) := by decide +kernel
theorem dX6_of_121 : decode cX6_of 121 = .ok (.getfield 27, 3) := by decide +kernel
theorem dX6_of_124 : decode cX6_of 124 = .ok (.getfield 68, 3) := by decide +kernel
theorem dX6_of_127 : decode cX6_of 127 = .ok (.iload_n 1, 1) := by decide +kernel
theorem dX6_of_128 : decode cX6_of 128 = .ok (.invokevirtual 180, 3) := by decide +kernel
theorem dX6_of_131 : decode cX6_of 131 = .ok (.ireturn, 1) := by decide +kernel
theorem dX6_of_132 : decode cX6_of 132 = .ok (.aload_n 0, 1) := by decide +kernel
theorem dX6_of_133 : decode cX6_of 133 = .ok (.getfield 20, 3) := by decide +kernel
theorem dX6_of_136 : decode cX6_of 136 = .ok (.aload_n 0, 1) := by decide +kernel
theorem dX6_of_137 : decode cX6_of 137 = .ok (.getfield 27, 3) := by decide +kernel
theorem dX6_of_140 : decode cX6_of 140 = .ok (.getfield 68, 3) := by decide +kernel
theorem dX6_of_143 : decode cX6_of 143 = .ok (.iload_n 1, 1) := by decide +kernel
theorem dX6_of_144 : decode cX6_of 144 = .ok (.iconst 0, 1) := by decide +kernel
theorem dX6_of_145 : decode cX6_of 145 = .ok (.invokevirtual 104, 3) := by decide +kernel
theorem dX6_of_148 : decode cX6_of 148 = .ok (.ireturn, 1) := by decide +kernel
theorem dX6_of_149 : decode cX6_of 149 = .ok (.aload_n 0, 1) := by decide +kernel
theorem dX6_of_150 : decode cX6_of 150 = .ok (.getfield 20, 3) := by decide +kernel
theorem dX6_of_153 : decode cX6_of 153 = .ok (.aload_n 0, 1) := by decide +kernel
theorem dX6_of_154 : decode cX6_of 154 = .ok (.getfield 27, 3) := by decide +kernel
theorem dX6_of_157 : decode cX6_of 157 = .ok (.getfield 68, 3) := by decide +kernel
theorem dX6_of_160 : decode cX6_of 160 = .ok (.iload_n 1, 1) := by decide +kernel
theorem dX6_of_161 : decode cX6_of 161 = .ok (.iconst 1, 1) := by decide +kernel
theorem dX6_of_162 : decode cX6_of 162 = .ok (.invokevirtual 104, 3) := by decide +kernel
theorem dX6_of_165 : decode cX6_of 165 = .ok (.ireturn, 1) := by decide +kernel
theorem dX6_of_166 : decode cX6_of 166 = .ok (.bipush (-2), 2) := by decide +kernel
theorem dX6_of_168 : decode cX6_of 168 = .ok (.ireturn, 1) := by decide +kernel
theorem dX6_written_0 : decode cX6_written 0 = .ok (.iload_n 1, 1) := by decide +kernel
theorem dX6_written_1 : decode cX6_written 1 = .ok (.iconst (-1), 1) := by decide +kernel
theorem dX6_written_2 : decode cX6_written 2 = .ok (.if_icmp .ne 14, 3) := by decide +kernel
theorem dX6_written_5 : decode cX6_written 5 = .ok (.aload_n 0, 1) := by decide +kernel
theorem dX6_written_6 : decode cX6_written 6 = .ok (.getfield 27, 3) := by decide +kernel
theorem dX6_written_9 : decode cX6_written 9 = .ok (.getfield 68, 3) := by decide +kernel
theorem dX6_written_12 : decode cX6_written 12 = .ok (.getfield 101, 3) := by decide +kernel
theorem dX6_written_15 : decode cX6_written 15 = .ok (.ireturn, 1) := by decide +kernel
theorem dX6_written_16 : decode cX6_written 16 = .ok (.iload_n 1, 1) := by decide +kernel
theorem dX6_written_17 : decode cX6_written 17 = .ok (.ifCond .lt 32, 3) := by decide +kernel
theorem dX6_written_20 : decode cX6_written 20 = .ok (.iload_n 1, 1) := by decide +kernel
theorem dX6_written_21 : decode cX6_written 21 = .ok (.aload_n 0, 1) := by decide +kernel
theorem dX6_written_22 : decode cX6_written 22 = .ok (.getfield 27, 3) := by decide +kernel
theorem dX6_written_25 : decode cX6_written 25 = .ok (.getfield 68, 3) := by decide +kernel
theorem dX6_written_28 : decode cX6_written 28 = .ok (.getfield 101, 3) := by decide +kernel
theorem dX6_written_31 : decode cX6_written 31 = .ok (.if_icmp .ge 18, 3) := by decide +kernel
theorem dX6_written_34 : decode cX6_written 34 = .ok (.iload_n 1, 1) := by decide +kernel
theorem dX6_written_35 : decode cX6_written 35 = .ok (.bipush 60, 2) := by decide +kernel
theorem dX6_written_37 : decode cX6_written 37 = .ok (.if_icmp .ge 12, 3) := by decide +kernel
theorem dX6_written_40 : decode cX6_written 40 = .ok (.iload_n 2, 1) := by decide +kernel
theorem dX6_written_41 : decode cX6_written 41 = .ok (.ifCond .lt 8, 3) := by decide +kernel
theorem dX6_written_44 : decode cX6_written 44 = .ok (.iload_n 2, 1) := by decide +kernel
theorem dX6_written_45 : decode cX6_written 45 = .ok (.iconst 4, 1) := by decide +kernel
theorem dX6_written_46 : decode cX6_written 46 = .ok (.if_icmp .lt 6, 3) := by decide +kernel
theorem dX6_written_49 : decode cX6_written 49 = .ok (.bipush (-2), 2) := by decide +kernel
theorem dX6_written_51 : decode cX6_written 51 = .ok (.ireturn, 1) := by decide +kernel
theorem dX6_written_52 : decode cX6_written 52 = .ok (.aload_n 0, 1) := by decide +kernel
theorem dX6_written_53 : decode cX6_written 53 = .ok (.getfield 27, 3) := by decide +kernel
theorem dX6_written_56 : decode cX6_written 56 = .ok (.getfield 184, 3) := by decide +kernel
theorem dX6_written_59 : decode cX6_written 59 = .ok (.iconst 4, 1) := by decide +kernel
theorem dX6_written_60 : decode cX6_written 60 = .ok (.iload_n 1, 1) := by decide +kernel
theorem dX6_written_61 : decode cX6_written 61 = .ok (.imul, 1) := by decide +kernel
theorem dX6_written_62 : decode cX6_written 62 = .ok (.iload_n 2, 1) := by decide +kernel
theorem dX6_written_63 : decode cX6_written 63 = .ok (.iadd, 1) := by decide +kernel
theorem dX6_written_64 : decode cX6_written 64 = .ok (.iaload, 1) := by decide +kernel
theorem dX6_written_65 : decode cX6_written 65 = .ok (.ireturn, 1) := by decide +kernel
theorem dX6_dent_0 : decode cX6_dent 0 = .ok (.iload_n 1, 1) := by decide +kernel
theorem dX6_dent_1 : decode cX6_dent 1 = .ok (.iconst (-1), 1) := by decide +kernel
theorem dX6_dent_2 : decode cX6_dent 2 = .ok (.if_icmp .ne 14, 3) := by decide +kernel
theorem dX6_dent_5 : decode cX6_dent 5 = .ok (.aload_n 0, 1) := by decide +kernel
theorem dX6_dent_6 : decode cX6_dent 6 = .ok (.getfield 27, 3) := by decide +kernel
theorem dX6_dent_9 : decode cX6_dent 9 = .ok (.getfield 68, 3) := by decide +kernel
theorem dX6_dent_12 : decode cX6_dent 12 = .ok (.getfield 115, 3) := by decide +kernel
theorem dX6_dent_15 : decode cX6_dent 15 = .ok (.ireturn, 1) := by decide +kernel
theorem dX6_dent_16 : decode cX6_dent 16 = .ok (.iload_n 1, 1) := by decide +kernel
theorem dX6_dent_17 : decode cX6_dent 17 = .ok (.ifCond .lt 32, 3) := by decide +kernel
theorem dX6_dent_20 : decode cX6_dent 20 = .ok (.iload_n 1, 1) := by decide +kernel
theorem dX6_dent_21 : decode cX6_dent 21 = .ok (.aload_n 0, 1) := by decide +kernel
theorem dX6_dent_22 : decode cX6_dent 22 = .ok (.getfield 27, 3) := by decide +kernel
theorem dX6_dent_25 : decode cX6_dent 25 = .ok (.getfield 68, 3) := by decide +kernel
theorem dX6_dent_28 : decode cX6_dent 28 = .ok (.getfield 115, 3) := by decide +kernel
theorem dX6_dent_31 : decode cX6_dent 31 = .ok (.if_icmp .ge 18, 3) := by decide +kernel
theorem dX6_dent_34 : decode cX6_dent 34 = .ok (.iload_n 1, 1) := by decide +kernel
theorem dX6_dent_35 : decode cX6_dent 35 = .ok (.bipush 30, 2) := by decide +kernel
theorem dX6_dent_37 : decode cX6_dent 37 = .ok (.if_icmp .ge 12, 3) := by decide +kernel
theorem dX6_dent_40 : decode cX6_dent 40 = .ok (.iload_n 2, 1) := by decide +kernel
theorem dX6_dent_41 : decode cX6_dent 41 = .ok (.ifCond .lt 8, 3) := by decide +kernel
theorem dX6_dent_44 : decode cX6_dent 44 = .ok (.iload_n 2, 1) := by decide +kernel
theorem dX6_dent_45 : decode cX6_dent 45 = .ok (.iconst 3, 1) := by decide +kernel
theorem dX6_dent_46 : decode cX6_dent 46 = .ok (.if_icmp .lt 7, 3) := by decide +kernel
theorem dX6_dent_49 : decode cX6_dent 49 = .ok (.sipush (-9999), 3) := by decide +kernel
theorem dX6_dent_52 : decode cX6_dent 52 = .ok (.ireturn, 1) := by decide +kernel
theorem dX6_dent_53 : decode cX6_dent 53 = .ok (.aload_n 0, 1) := by decide +kernel
theorem dX6_dent_54 : decode cX6_dent 54 = .ok (.getfield 27, 3) := by decide +kernel
theorem dX6_dent_57 : decode cX6_dent 57 = .ok (.getfield 187, 3) := by decide +kernel
theorem dX6_dent_60 : decode cX6_dent 60 = .ok (.iconst 3, 1) := by decide +kernel
theorem dX6_dent_61 : decode cX6_dent 61 = .ok (.iload_n 1, 1) := by decide +kernel
theorem dX6_dent_62 : decode cX6_dent 62 = .ok (.imul, 1) := by decide +kernel
theorem dX6_dent_63 : decode cX6_dent 63 = .ok (.iload_n 2, 1) := by decide +kernel
theorem dX6_dent_64 : decode cX6_dent 64 = .ok (.iadd, 1) := by decide +kernel
theorem dX6_dent_65 : decode cX6_dent 65 = .ok (.iaload, 1) := by decide +kernel
theorem dX6_dent_66 : decode cX6_dent 66 = .ok (.ireturn, 1) := by decide +kernel
theorem dX6_called_0 : decode cX6_called 0 = .ok (.iload_n 2, 1) := by decide +kernel
theorem dX6_called_1 : decode cX6_called 1 = .ok (.invokestatic 62, 3) := by decide +kernel
theorem dX6_called_4 : decode cX6_called 4 = .ok (.ifCond .eq 24, 3) := by decide +kernel
theorem dX6_called_7 : decode cX6_called 7 = .ok (.aload_n 0, 1) := by decide +kernel
theorem dX6_called_8 : decode cX6_called 8 = .ok (.iload_n 1, 1) := by decide +kernel
theorem dX6_called_9 : decode cX6_called 9 = .ok (.invokevirtual 190, 3) := by decide +kernel
theorem dX6_called_12 : decode cX6_called 12 = .ok (.ifCond .eq 16, 3) := by decide +kernel
theorem dX6_called_15 : decode cX6_called 15 = .ok (.iload_n 3, 1) := by decide +kernel
theorem dX6_called_16 : decode cX6_called 16 = .ok (.iconst (-1), 1) := by decide +kernel
theorem dX6_called_17 : decode cX6_called 17 = .ok (.if_icmp .lt 11, 3) := by decide +kernel
theorem dX6_called_20 : decode cX6_called 20 = .ok (.iload_n 3, 1) := by decide +kernel
theorem dX6_called_21 : decode cX6_called 21 = .ok (.iload_n 1, 1) := by decide +kernel
theorem dX6_called_22 : decode cX6_called 22 = .ok (.invokestatic 193, 3) := by decide +kernel
theorem dX6_called_25 : decode cX6_called 25 = .ok (.if_icmp .lt 7, 3) := by decide +kernel
theorem dX6_called_28 : decode cX6_called 28 = .ok (.sipush (-9999), 3) := by decide +kernel
theorem dX6_called_31 : decode cX6_called 31 = .ok (.ireturn, 1) := by decide +kernel
theorem dX6_called_32 : decode cX6_called 32 = .ok (.aload_n 0, 1) := by decide +kernel
theorem dX6_called_33 : decode cX6_called 33 = .ok (.getfield 10, 3) := by decide +kernel
theorem dX6_called_36 : decode cX6_called 36 = .ok (.iload_n 1, 1) := by decide +kernel
theorem dX6_called_37 : decode cX6_called 37 = .ok (.iload_n 2, 1) := by decide +kernel
theorem dX6_called_38 : decode cX6_called 38 = .ok (.invokevirtual 199, 3) := by decide +kernel
theorem dX6_called_41 : decode cX6_called 41 = .ok (.iload_n 3, 1) := by decide +kernel
theorem dX6_called_42 : decode cX6_called 42 = .ok (.iconst (-1), 1) := by decide +kernel
theorem dX6_called_43 : decode cX6_called 43 = .ok (.if_icmp .ne 11, 3) := by decide +kernel
theorem dX6_called_46 : decode cX6_called 46 = .ok (.aload_n 0, 1) := by decide +kernel
theorem dX6_called_47 : decode cX6_called 47 = .ok (.getfield 10, 3) := by decide +kernel
theorem dX6_called_50 : decode cX6_called 50 = .ok (.getfield 202, 3) := by decide +kernel
theorem dX6_called_53 : decode cX6_called 53 = .ok (.ireturn, 1) := by decide +kernel
theorem dX6_called_54 : decode cX6_called 54 = .ok (.iload_n 3, 1) := by decide +kernel
theorem dX6_called_55 : decode cX6_called 55 = .ok (.bipush 6, 2) := by decide +kernel
theorem dX6_called_57 : decode cX6_called 57 = .ok (.if_icmp .ge 15, 3) := by decide +kernel
theorem dX6_called_60 : decode cX6_called 60 = .ok (.aload_n 0, 1) := by decide +kernel
theorem dX6_called_61 : decode cX6_called 61 = .ok (.getfield 10, 3) := by decide +kernel
theorem dX6_called_64 : decode cX6_called 64 = .ok (.getfield 205, 3) := by decide +kernel
theorem dX6_called_67 : decode cX6_called 67 = .ok (.iload_n 3, 1) := by decide +kernel
theorem dX6_called_68 : decode cX6_called 68 = .ok (.iaload, 1) := by decide +kernel
theorem dX6_called_69 : decode cX6_called 69 = .ok (.goto 6, 3) := by decide +kernel
theorem dX6_called_72 : decode cX6_called 72 = .ok (.sipush (-9999), 3) := by decide +kernel
theorem dX6_called_75 : decode cX6_called 75 = .ok (.ireturn, 1) := by decide +kernel
theorem dX6_acquitted_0 : decode cX6_acquitted 0 = .ok (.iload_n 1, 1) := by decide +kernel
theorem dX6_acquitted_1 : decode cX6_acquitted 1 = .ok (.invokestatic 58, 3) := by decide +kernel
theorem dX6_acquitted_4 : decode cX6_acquitted 4 = .ok (.ifCond .ne 6, 3) := by decide +kernel
theorem dX6_acquitted_7 : decode cX6_acquitted 7 = .ok (.bipush (-3), 2) := by decide +kernel
theorem dX6_acquitted_9 : decode cX6_acquitted 9 = .ok (.ireturn, 1) := by decide +kernel
theorem dX6_acquitted_10 : decode cX6_acquitted 10 = .ok (.aload_n 0, 1) := by decide +kernel
theorem dX6_acquitted_11 : decode cX6_acquitted 11 = .ok (.getfield 55, 3) := by decide +kernel
theorem dX6_acquitted_14 : decode cX6_acquitted 14 = .ok (.iload_n 1, 1) := by decide +kernel
theorem dX6_acquitted_15 : decode cX6_acquitted 15 = .ok (.if_icmp .eq 16, 3) := by decide +kernel
theorem dX6_acquitted_18 : decode cX6_acquitted 18 = .ok (.aload_n 0, 1) := by decide +kernel
theorem dX6_acquitted_19 : decode cX6_acquitted 19 = .ok (.getfield 10, 3) := by decide +kernel
theorem dX6_acquitted_22 : decode cX6_acquitted 22 = .ok (.iload_n 1, 1) := by decide +kernel
theorem dX6_acquitted_23 : decode cX6_acquitted 23 = .ok (.invokevirtual 208, 3) := by decide +kernel
theorem dX6_acquitted_26 : decode cX6_acquitted 26 = .ok (.aload_n 0, 1) := by decide +kernel
theorem dX6_acquitted_27 : decode cX6_acquitted 27 = .ok (.iload_n 1, 1) := by decide +kernel
theorem dX6_acquitted_28 : decode cX6_acquitted 28 = .ok (.putfield 55, 3) := by decide +kernel
theorem dX6_acquitted_31 : decode cX6_acquitted 31 = .ok (.aload_n 0, 1) := by decide +kernel
theorem dX6_acquitted_32 : decode cX6_acquitted 32 = .ok (.getfield 10, 3) := by decide +kernel
theorem dX6_acquitted_35 : decode cX6_acquitted 35 = .ok (.getfield 211, 3) := by decide +kernel
theorem dX6_acquitted_38 : decode cX6_acquitted 38 = .ok (.istore_n 3, 1) := by decide +kernel
theorem dX6_acquitted_39 : decode cX6_acquitted 39 = .ok (.iload_n 3, 1) := by decide +kernel
theorem dX6_acquitted_40 : decode cX6_acquitted 40 = .ok (.iconst (-1), 1) := by decide +kernel
theorem dX6_acquitted_41 : decode cX6_acquitted 41 = .ok (.if_icmp .ne 6, 3) := by decide +kernel
theorem dX6_acquitted_44 : decode cX6_acquitted 44 = .ok (.bipush (-3), 2) := by decide +kernel
theorem dX6_acquitted_46 : decode cX6_acquitted 46 = .ok (.ireturn, 1) := by decide +kernel
theorem dX6_acquitted_47 : decode cX6_acquitted 47 = .ok (.iload_n 2, 1) := by decide +kernel
theorem dX6_acquitted_48 : decode cX6_acquitted 48 = .ok (.iconst (-1), 1) := by decide +kernel
theorem dX6_acquitted_49 : decode cX6_acquitted 49 = .ok (.if_icmp .ne 5, 3) := by decide +kernel
theorem dX6_acquitted_52 : decode cX6_acquitted 52 = .ok (.iload_n 3, 1) := by decide +kernel
theorem dX6_acquitted_53 : decode cX6_acquitted 53 = .ok (.ireturn, 1) := by decide +kernel
theorem dX6_acquitted_54 : decode cX6_acquitted 54 = .ok (.iload_n 2, 1) := by decide +kernel
theorem dX6_acquitted_55 : decode cX6_acquitted 55 = .ok (.bipush (-2), 2) := by decide +kernel
theorem dX6_acquitted_57 : decode cX6_acquitted 57 = .ok (.if_icmp .ne 11, 3) := by decide +kernel
theorem dX6_acquitted_60 : decode cX6_acquitted 60 = .ok (.aload_n 0, 1) := by decide +kernel
theorem dX6_acquitted_61 : decode cX6_acquitted 61 = .ok (.getfield 10, 3) := by decide +kernel
theorem dX6_acquitted_64 : decode cX6_acquitted 64 = .ok (.getfield 214, 3) := by decide +kernel
theorem dX6_acquitted_67 : decode cX6_acquitted 67 = .ok (.ireturn, 1) := by decide +kernel
theorem dX6_acquitted_68 : decode cX6_acquitted 68 = .ok (.iload_n 2, 1) := by decide +kernel
theorem dX6_acquitted_69 : decode cX6_acquitted 69 = .ok (.ifCond .lt 25, 3) := by decide +kernel
theorem dX6_acquitted_72 : decode cX6_acquitted 72 = .ok (.iload_n 2, 1) := by decide +kernel
theorem dX6_acquitted_73 : decode cX6_acquitted 73 = .ok (.iload_n 3, 1) := by decide +kernel
theorem dX6_acquitted_74 : decode cX6_acquitted 74 = .ok (.if_icmp .ge 20, 3) := by decide +kernel
theorem dX6_acquitted_77 : decode cX6_acquitted 77 = .ok (.iload_n 2, 1) := by decide +kernel
theorem dX6_acquitted_78 : decode cX6_acquitted 78 = .ok (.iconst 4, 1) := by decide +kernel
theorem dX6_acquitted_79 : decode cX6_acquitted 79 = .ok (.if_icmp .ge 15, 3) := by decide +kernel
theorem dX6_acquitted_82 : decode cX6_acquitted 82 = .ok (.aload_n 0, 1) := by decide +kernel
theorem dX6_acquitted_83 : decode cX6_acquitted 83 = .ok (.getfield 10, 3) := by decide +kernel
theorem dX6_acquitted_86 : decode cX6_acquitted 86 = .ok (.getfield 217, 3) := by decide +kernel
theorem dX6_acquitted_89 : decode cX6_acquitted 89 = .ok (.iload_n 2, 1) := by decide +kernel
theorem dX6_acquitted_90 : decode cX6_acquitted 90 = .ok (.iaload, 1) := by decide +kernel
theorem dX6_acquitted_91 : decode cX6_acquitted 91 = .ok (.goto 5, 3) := by decide +kernel
theorem dX6_acquitted_94 : decode cX6_acquitted 94 = .ok (.bipush (-3), 2) := by decide +kernel
theorem dX6_acquitted_96 : decode cX6_acquitted 96 = .ok (.ireturn, 1) := by decide +kernel
theorem dX6_sets_0 : decode cX6_sets 0 = .ok (.iload_n 1, 1) := by decide +kernel
theorem dX6_sets_1 : decode cX6_sets 1 = .ok (.invokestatic 58, 3) := by decide +kernel
theorem dX6_sets_4 : decode cX6_sets 4 = .ok (.ifCond .eq 27, 3) := by decide +kernel
theorem dX6_sets_7 : decode cX6_sets 7 = .ok (.iload_n 2, 1) := by decide +kernel
theorem dX6_sets_8 : decode cX6_sets 8 = .ok (.invokestatic 62, 3) := by decide +kernel
theorem dX6_sets_11 : decode cX6_sets 11 = .ok (.ifCond .eq 20, 3) := by decide +kernel
theorem dX6_sets_14 : decode cX6_sets 14 = .ok (.iload_n 3, 1) := by decide +kernel
theorem dX6_sets_15 : decode cX6_sets 15 = .ok (.ifCond .lt 16, 3) := by decide +kernel
theorem dX6_sets_18 : decode cX6_sets 18 = .ok (.iload_n 3, 1) := by decide +kernel
theorem dX6_sets_19 : decode cX6_sets 19 = .ok (.sipush 999, 3) := by decide +kernel
theorem dX6_sets_22 : decode cX6_sets 22 = .ok (.if_icmp .gt 9, 3) := by decide +kernel
theorem dX6_sets_25 : decode cX6_sets 25 = .ok (.iload 4, 2) := by decide +kernel
theorem dX6_sets_27 : decode cX6_sets 27 = .ok (.iconst (-1), 1) := by decide +kernel
theorem dX6_sets_28 : decode cX6_sets 28 = .ok (.if_icmp .ge 5, 3) := by decide +kernel
theorem dX6_sets_31 : decode cX6_sets 31 = .ok (.iconst (-1), 1) := by decide +kernel
theorem dX6_sets_32 : decode cX6_sets 32 = .ok (.ireturn, 1) := by decide +kernel
theorem dX6_sets_33 : decode cX6_sets 33 = .ok (.iconst 0, 1) := by decide +kernel
theorem dX6_sets_34 : decode cX6_sets 34 = .ok (.istore 5, 2) := by decide +kernel
theorem dX6_sets_36 : decode cX6_sets 36 = .ok (.iconst 0, 1) := by decide +kernel
theorem dX6_sets_37 : decode cX6_sets 37 = .ok (.istore 6, 2) := by decide +kernel
theorem dX6_sets_39 : decode cX6_sets 39 = .ok (.iload 6, 2) := by decide +kernel
theorem dX6_sets_41 : decode cX6_sets 41 = .ok (.iconst 1, 1) := by decide +kernel
theorem dX6_sets_42 : decode cX6_sets 42 = .ok (.aload_n 0, 1) := by decide +kernel
theorem dX6_sets_43 : decode cX6_sets 43 = .ok (.getfield 27, 3) := by decide +kernel
theorem dX6_sets_46 : decode cX6_sets 46 = .ok (.getfield 77, 3) := by decide +kernel
theorem dX6_sets_49 : decode cX6_sets 49 = .ok (.ishl, 1) := by decide +kernel
theorem dX6_sets_50 : decode cX6_sets 50 = .ok (.if_icmp .ge 40, 3) := by decide +kernel
theorem dX6_sets_53 : decode cX6_sets 53 = .ok (.aload_n 0, 1) := by decide +kernel
theorem dX6_sets_54 : decode cX6_sets 54 = .ok (.getfield 10, 3) := by decide +kernel
theorem dX6_sets_57 : decode cX6_sets 57 = .ok (.iload 6, 2) := by decide +kernel
theorem dX6_sets_59 : decode cX6_sets 59 = .ok (.iconst 2, 1) := by decide +kernel
theorem dX6_sets_60 : decode cX6_sets 60 = .ok (.iload_n 1, 1) := by decide +kernel
theorem dX6_sets_61 : decode cX6_sets 61 = .ok (.imul, 1) := by decide +kernel
theorem dX6_sets_62 : decode cX6_sets 62 = .ok (.iload_n 2, 1) := by decide +kernel
theorem dX6_sets_63 : decode cX6_sets 63 = .ok (.iadd, 1) := by decide +kernel
theorem dX6_sets_64 : decode cX6_sets 64 = .ok (.iload_n 3, 1) := by decide +kernel
theorem dX6_sets_65 : decode cX6_sets 65 = .ok (.invokevirtual 220, 3) := by decide +kernel
theorem dX6_sets_68 : decode cX6_sets 68 = .ok (.ifCond .eq 16, 3) := by decide +kernel
theorem dX6_sets_71 : decode cX6_sets 71 = .ok (.iload 5, 2) := by decide +kernel
theorem dX6_sets_73 : decode cX6_sets 73 = .ok (.iload 4, 2) := by decide +kernel
theorem dX6_sets_75 : decode cX6_sets 75 = .ok (.if_icmp .ne 6, 3) := by decide +kernel
theorem dX6_sets_78 : decode cX6_sets 78 = .ok (.iload 6, 2) := by decide +kernel
theorem dX6_sets_80 : decode cX6_sets 80 = .ok (.ireturn, 1) := by decide +kernel
theorem dX6_sets_81 : decode cX6_sets 81 = .ok (.iinc 5 1, 3) := by decide +kernel
theorem dX6_sets_84 : decode cX6_sets 84 = .ok (.iinc 6 1, 3) := by decide +kernel
theorem dX6_sets_87 : decode cX6_sets 87 = .ok (.goto (-48), 3) := by decide +kernel
theorem dX6_sets_90 : decode cX6_sets 90 = .ok (.iload 4, 2) := by decide +kernel
theorem dX6_sets_92 : decode cX6_sets 92 = .ok (.iconst (-1), 1) := by decide +kernel
theorem dX6_sets_93 : decode cX6_sets 93 = .ok (.if_icmp .ne 8, 3) := by decide +kernel
theorem dX6_sets_96 : decode cX6_sets 96 = .ok (.iload 5, 2) := by decide +kernel
theorem dX6_sets_98 : decode cX6_sets 98 = .ok (.goto 4, 3) := by decide +kernel
theorem dX6_sets_101 : decode cX6_sets 101 = .ok (.iconst (-1), 1) := by decide +kernel
theorem dX6_sets_102 : decode cX6_sets 102 = .ok (.ireturn, 1) := by decide +kernel
theorem dX6_tested_0 : decode cX6_tested 0 = .ok (.iload_n 1, 1) := by decide +kernel
theorem dX6_tested_1 : decode cX6_tested 1 = .ok (.bipush (-20), 2) := by decide +kernel
theorem dX6_tested_3 : decode cX6_tested 3 = .ok (.if_icmp .lt 31, 3) := by decide +kernel
theorem dX6_tested_6 : decode cX6_tested 6 = .ok (.iload_n 1, 1) := by decide +kernel
theorem dX6_tested_7 : decode cX6_tested 7 = .ok (.bipush 20, 2) := by decide +kernel
theorem dX6_tested_9 : decode cX6_tested 9 = .ok (.if_icmp .gt 25, 3) := by decide +kernel
theorem dX6_tested_12 : decode cX6_tested 12 = .ok (.iload_n 2, 1) := by decide +kernel
theorem dX6_tested_13 : decode cX6_tested 13 = .ok (.iconst (-1), 1) := by decide +kernel
theorem dX6_tested_14 : decode cX6_tested 14 = .ok (.if_icmp .lt 20, 3) := by decide +kernel
theorem dX6_tested_17 : decode cX6_tested 17 = .ok (.iload_n 2, 1) := by decide +kernel
theorem dX6_tested_18 : decode cX6_tested 18 = .ok (.iconst 1, 1) := by decide +kernel
theorem dX6_tested_19 : decode cX6_tested 19 = .ok (.if_icmp .gt 15, 3) := by decide +kernel
theorem dX6_tested_22 : decode cX6_tested 22 = .ok (.aload_n 0, 1) := by decide +kernel
theorem dX6_tested_23 : decode cX6_tested 23 = .ok (.getfield 27, 3) := by decide +kernel
theorem dX6_tested_26 : decode cX6_tested 26 = .ok (.getfield 224, 3) := by decide +kernel
theorem dX6_tested_29 : decode cX6_tested 29 = .ok (.bipush 12, 2) := by decide +kernel
theorem dX6_tested_31 : decode cX6_tested 31 = .ok (.if_icmp .lt 5, 3) := by decide +kernel
theorem dX6_tested_34 : decode cX6_tested 34 = .ok (.iconst (-1), 1) := by decide +kernel
theorem dX6_tested_35 : decode cX6_tested 35 = .ok (.ireturn, 1) := by decide +kernel
theorem dX6_tested_36 : decode cX6_tested 36 = .ok (.iconst 0, 1) := by decide +kernel
theorem dX6_tested_37 : decode cX6_tested 37 = .ok (.istore_n 3, 1) := by decide +kernel
theorem dX6_tested_38 : decode cX6_tested 38 = .ok (.iload_n 3, 1) := by decide +kernel
theorem dX6_tested_39 : decode cX6_tested 39 = .ok (.bipush 10, 2) := by decide +kernel
theorem dX6_tested_41 : decode cX6_tested 41 = .ok (.if_icmp .ge 36, 3) := by decide +kernel
theorem dX6_tested_44 : decode cX6_tested 44 = .ok (.iload_n 1, 1) := by decide +kernel
theorem dX6_tested_45 : decode cX6_tested 45 = .ok (.iload_n 3, 1) := by decide +kernel
theorem dX6_tested_46 : decode cX6_tested 46 = .ok (.iadd, 1) := by decide +kernel
theorem dX6_tested_47 : decode cX6_tested 47 = .ok (.invokestatic 227, 3) := by decide +kernel
theorem dX6_tested_50 : decode cX6_tested 50 = .ok (.iload_n 2, 1) := by decide +kernel
theorem dX6_tested_51 : decode cX6_tested 51 = .ok (.if_icmp .eq 20, 3) := by decide +kernel
theorem dX6_tested_54 : decode cX6_tested 54 = .ok (.aload_n 0, 1) := by decide +kernel
theorem dX6_tested_55 : decode cX6_tested 55 = .ok (.getfield 27, 3) := by decide +kernel
theorem dX6_tested_58 : decode cX6_tested 58 = .ok (.dup, 1) := by decide +kernel
theorem dX6_tested_59 : decode cX6_tested 59 = .ok (.getfield 230, 3) := by decide +kernel
theorem dX6_tested_62 : decode cX6_tested 62 = .ok (.iconst 1, 1) := by decide +kernel
theorem dX6_tested_63 : decode cX6_tested 63 = .ok (.iload_n 3, 1) := by decide +kernel
theorem dX6_tested_64 : decode cX6_tested 64 = .ok (.ishl, 1) := by decide +kernel
theorem dX6_tested_65 : decode cX6_tested 65 = .ok (.iconst (-1), 1) := by decide +kernel
theorem dX6_tested_66 : decode cX6_tested 66 = .ok (.ixor, 1) := by decide +kernel
theorem dX6_tested_67 : decode cX6_tested 67 = .ok (.iand, 1) := by decide +kernel
theorem dX6_tested_68 : decode cX6_tested 68 = .ok (.putfield 230, 3) := by decide +kernel
theorem dX6_tested_71 : decode cX6_tested 71 = .ok (.iinc 3 1, 3) := by decide +kernel
theorem dX6_tested_74 : decode cX6_tested 74 = .ok (.goto (-36), 3) := by decide +kernel
theorem dX6_tested_77 : decode cX6_tested 77 = .ok (.aload_n 0, 1) := by decide +kernel
theorem dX6_tested_78 : decode cX6_tested 78 = .ok (.getfield 27, 3) := by decide +kernel
theorem dX6_tested_81 : decode cX6_tested 81 = .ok (.dup, 1) := by decide +kernel
theorem dX6_tested_82 : decode cX6_tested 82 = .ok (.getfield 224, 3) := by decide +kernel
theorem dX6_tested_85 : decode cX6_tested 85 = .ok (.iconst 1, 1) := by decide +kernel
theorem dX6_tested_86 : decode cX6_tested 86 = .ok (.iadd, 1) := by decide +kernel
theorem dX6_tested_87 : decode cX6_tested 87 = .ok (.putfield 224, 3) := by decide +kernel
theorem dX6_tested_90 : decode cX6_tested 90 = .ok (.aload_n 0, 1) := by decide +kernel
theorem dX6_tested_91 : decode cX6_tested 91 = .ok (.getfield 27, 3) := by decide +kernel
theorem dX6_tested_94 : decode cX6_tested 94 = .ok (.getfield 224, 3) := by decide +kernel
theorem dX6_tested_97 : decode cX6_tested 97 = .ok (.ireturn, 1) := by decide +kernel
theorem dX6_fits_0 : decode cX6_fits 0 = .ok (.aload_n 0, 1) := by decide +kernel
theorem dX6_fits_1 : decode cX6_fits 1 = .ok (.getfield 27, 3) := by decide +kernel
theorem dX6_fits_4 : decode cX6_fits 4 = .ok (.getfield 230, 3) := by decide +kernel
theorem dX6_fits_7 : decode cX6_fits 7 = .ok (.ireturn, 1) := by decide +kernel
theorem dX6_next_0 : decode cX6_next 0 = .ok (.aload_n 0, 1) := by decide +kernel
theorem dX6_next_1 : decode cX6_next 1 = .ok (.getfield 27, 3) := by decide +kernel
theorem dX6_next_4 : decode cX6_next 4 = .ok (.getfield 230, 3) := by decide +kernel
theorem dX6_next_7 : decode cX6_next 7 = .ok (.ifCond .ne 6, 3) := by decide +kernel
theorem dX6_next_10 : decode cX6_next 10 = .ok (.bipush (-99), 2) := by decide +kernel
theorem dX6_next_12 : decode cX6_next 12 = .ok (.ireturn, 1) := by decide +kernel
theorem dX6_next_13 : decode cX6_next 13 = .ok (.bipush (-20), 2) := by decide +kernel
theorem dX6_next_15 : decode cX6_next 15 = .ok (.istore_n 1, 1) := by decide +kernel
theorem dX6_next_16 : decode cX6_next 16 = .ok (.aload_n 0, 1) := by decide +kernel
theorem dX6_next_17 : decode cX6_next 17 = .ok (.iload_n 1, 1) := by decide +kernel
theorem dX6_next_18 : decode cX6_next 18 = .ok (.invokevirtual 233, 3) := by decide +kernel
theorem dX6_next_21 : decode cX6_next 21 = .ok (.istore_n 2, 1) := by decide +kernel
theorem dX6_next_22 : decode cX6_next 22 = .ok (.bipush (-19), 2) := by decide +kernel
theorem dX6_next_24 : decode cX6_next 24 = .ok (.istore_n 3, 1) := by decide +kernel
theorem dX6_next_25 : decode cX6_next 25 = .ok (.iload_n 3, 1) := by decide +kernel
theorem dX6_next_26 : decode cX6_next 26 = .ok (.bipush 20, 2) := by decide +kernel
theorem dX6_next_28 : decode cX6_next 28 = .ok (.if_icmp .gt 27, 3) := by decide +kernel
theorem dX6_next_31 : decode cX6_next 31 = .ok (.aload_n 0, 1) := by decide +kernel
theorem dX6_next_32 : decode cX6_next 32 = .ok (.iload_n 3, 1) := by decide +kernel
theorem dX6_next_33 : decode cX6_next 33 = .ok (.invokevirtual 233, 3) := by decide +kernel
theorem dX6_next_36 : decode cX6_next 36 = .ok (.istore 4, 2) := by decide +kernel
theorem dX6_next_38 : decode cX6_next 38 = .ok (.iload 4, 2) := by decide +kernel
theorem dX6_next_40 : decode cX6_next 40 = .ok (.iload_n 2, 1) := by decide +kernel
theorem dX6_next_41 : decode cX6_next 41 = .ok (.if_icmp .ge 8, 3) := by decide +kernel
theorem dX6_next_44 : decode cX6_next 44 = .ok (.iload 4, 2) := by decide +kernel
theorem dX6_next_46 : decode cX6_next 46 = .ok (.istore_n 2, 1) := by decide +kernel
theorem dX6_next_47 : decode cX6_next 47 = .ok (.iload_n 3, 1) := by decide +kernel
theorem dX6_next_48 : decode cX6_next 48 = .ok (.istore_n 1, 1) := by decide +kernel
theorem dX6_next_49 : decode cX6_next 49 = .ok (.iinc 3 1, 3) := by decide +kernel
theorem dX6_next_52 : decode cX6_next 52 = .ok (.goto (-27), 3) := by decide +kernel
theorem dX6_next_55 : decode cX6_next 55 = .ok (.iload_n 1, 1) := by decide +kernel
theorem dX6_next_56 : decode cX6_next 56 = .ok (.ireturn, 1) := by decide +kernel
theorem dX6_hired_0 : decode cX6_hired 0 = .ok (.iload_n 1, 1) := by decide +kernel
theorem dX6_hired_1 : decode cX6_hired 1 = .ok (.iconst 1, 1) := by decide +kernel
theorem dX6_hired_2 : decode cX6_hired 2 = .ok (.if_icmp .lt 10, 3) := by decide +kernel
theorem dX6_hired_5 : decode cX6_hired 5 = .ok (.iload_n 1, 1) := by decide +kernel
theorem dX6_hired_6 : decode cX6_hired 6 = .ok (.sipush 9999, 3) := by decide +kernel
theorem dX6_hired_9 : decode cX6_hired 9 = .ok (.if_icmp .le 5, 3) := by decide +kernel
theorem dX6_hired_12 : decode cX6_hired 12 = .ok (.iconst (-1), 1) := by decide +kernel
theorem dX6_hired_13 : decode cX6_hired 13 = .ok (.ireturn, 1) := by decide +kernel
theorem dX6_hired_14 : decode cX6_hired 14 = .ok (.iconst 0, 1) := by decide +kernel
theorem dX6_hired_15 : decode cX6_hired 15 = .ok (.istore_n 2, 1) := by decide +kernel
theorem dX6_hired_16 : decode cX6_hired 16 = .ok (.iload_n 2, 1) := by decide +kernel
theorem dX6_hired_17 : decode cX6_hired 17 = .ok (.aload_n 0, 1) := by decide +kernel
theorem dX6_hired_18 : decode cX6_hired 18 = .ok (.getfield 27, 3) := by decide +kernel
theorem dX6_hired_21 : decode cX6_hired 21 = .ok (.getfield 77, 3) := by decide +kernel
theorem dX6_hired_24 : decode cX6_hired 24 = .ok (.if_icmp .ge 39, 3) := by decide +kernel
theorem dX6_hired_27 : decode cX6_hired 27 = .ok (.iload_n 2, 1) := by decide +kernel
theorem dX6_hired_28 : decode cX6_hired 28 = .ok (.aload_n 0, 1) := by decide +kernel
theorem dX6_hired_29 : decode cX6_hired 29 = .ok (.getfield 41, 3) := by decide +kernel
theorem dX6_hired_32 : decode cX6_hired 32 = .ok (.arraylength, 1) := by decide +kernel
theorem dX6_hired_33 : decode cX6_hired 33 = .ok (.if_icmp .ge 30, 3) := by decide +kernel
theorem dX6_hired_36 : decode cX6_hired 36 = .ok (.aload_n 0, 1) := by decide +kernel
theorem dX6_hired_37 : decode cX6_hired 37 = .ok (.getfield 41, 3) := by decide +kernel
theorem dX6_hired_40 : decode cX6_hired 40 = .ok (.iload_n 2, 1) := by decide +kernel
theorem dX6_hired_41 : decode cX6_hired 41 = .ok (.aload_n 0, 1) := by decide +kernel
theorem dX6_hired_42 : decode cX6_hired 42 = .ok (.getfield 20, 3) := by decide +kernel
theorem dX6_hired_45 : decode cX6_hired 45 = .ok (.aload_n 0, 1) := by decide +kernel
theorem dX6_hired_46 : decode cX6_hired 46 = .ok (.getfield 27, 3) := by decide +kernel
theorem dX6_hired_49 : decode cX6_hired 49 = .ok (.getfield 68, 3) := by decide +kernel
theorem dX6_hired_52 : decode cX6_hired 52 = .ok (.iload_n 2, 1) := by decide +kernel
theorem dX6_hired_53 : decode cX6_hired 53 = .ok (.invokevirtual 180, 3) := by decide +kernel
theorem dX6_hired_56 : decode cX6_hired 56 = .ok (.iastore, 1) := by decide +kernel
theorem dX6_hired_57 : decode cX6_hired 57 = .ok (.iinc 2 1, 3) := by decide +kernel
theorem dX6_hired_60 : decode cX6_hired 60 = .ok (.goto (-44), 3) := by decide +kernel
theorem dX6_hired_63 : decode cX6_hired 63 = .ok (.iconst (-1), 1) := by decide +kernel
theorem dX6_hired_64 : decode cX6_hired 64 = .ok (.istore_n 2, 1) := by decide +kernel
theorem dX6_hired_65 : decode cX6_hired 65 = .ok (.iconst 0, 1) := by decide +kernel
theorem dX6_hired_66 : decode cX6_hired 66 = .ok (.istore_n 3, 1) := by decide +kernel
theorem dX6_hired_67 : decode cX6_hired 67 = .ok (.iconst 1, 1) := by decide +kernel
theorem dX6_hired_68 : decode cX6_hired 68 = .ok (.istore 4, 2) := by decide +kernel
theorem dX6_hired_70 : decode cX6_hired 70 = .ok (.iload 4, 2) := by decide +kernel
theorem dX6_hired_72 : decode cX6_hired 72 = .ok (.iconst 1, 1) := by decide +kernel
theorem dX6_hired_73 : decode cX6_hired 73 = .ok (.aload_n 0, 1) := by decide +kernel
theorem dX6_hired_74 : decode cX6_hired 74 = .ok (.getfield 27, 3) := by decide +kernel
theorem dX6_hired_77 : decode cX6_hired 77 = .ok (.getfield 77, 3) := by decide +kernel
theorem dX6_hired_80 : decode cX6_hired 80 = .ok (.ishl, 1) := by decide +kernel
theorem dX6_hired_81 : decode cX6_hired 81 = .ok (.if_icmp .ge 53, 3) := by decide +kernel
theorem dX6_hired_84 : decode cX6_hired 84 = .ok (.aload_n 0, 1) := by decide +kernel
theorem dX6_hired_85 : decode cX6_hired 85 = .ok (.iload 4, 2) := by decide +kernel
theorem dX6_hired_87 : decode cX6_hired 87 = .ok (.invokevirtual 236, 3) := by decide +kernel
theorem dX6_hired_90 : decode cX6_hired 90 = .ok (.bipush 10, 2) := by decide +kernel
theorem dX6_hired_92 : decode cX6_hired 92 = .ok (.imul, 1) := by decide +kernel
theorem dX6_hired_93 : decode cX6_hired 93 = .ok (.iload 4, 2) := by decide +kernel
theorem dX6_hired_95 : decode cX6_hired 95 = .ok (.invokestatic 193, 3) := by decide +kernel
theorem dX6_hired_98 : decode cX6_hired 98 = .ok (.iadd, 1) := by decide +kernel
theorem dX6_hired_99 : decode cX6_hired 99 = .ok (.istore 5, 2) := by decide +kernel
theorem dX6_hired_101 : decode cX6_hired 101 = .ok (.aload_n 0, 1) := by decide +kernel
theorem dX6_hired_102 : decode cX6_hired 102 = .ok (.iload 4, 2) := by decide +kernel
theorem dX6_hired_104 : decode cX6_hired 104 = .ok (.invokevirtual 239, 3) := by decide +kernel
theorem dX6_hired_107 : decode cX6_hired 107 = .ok (.iload_n 1, 1) := by decide +kernel
theorem dX6_hired_108 : decode cX6_hired 108 = .ok (.if_icmp .lt 20, 3) := by decide +kernel
theorem dX6_hired_111 : decode cX6_hired 111 = .ok (.iload_n 2, 1) := by decide +kernel
theorem dX6_hired_112 : decode cX6_hired 112 = .ok (.iconst (-1), 1) := by decide +kernel
theorem dX6_hired_113 : decode cX6_hired 113 = .ok (.if_icmp .eq 9, 3) := by decide +kernel
theorem dX6_hired_116 : decode cX6_hired 116 = .ok (.iload 5, 2) := by decide +kernel
theorem dX6_hired_118 : decode cX6_hired 118 = .ok (.iload_n 3, 1) := by decide +kernel
theorem dX6_hired_119 : decode cX6_hired 119 = .ok (.if_icmp .ge 9, 3) := by decide +kernel
theorem dX6_hired_122 : decode cX6_hired 122 = .ok (.iload 4, 2) := by decide +kernel
theorem dX6_hired_124 : decode cX6_hired 124 = .ok (.istore_n 2, 1) := by decide +kernel
theorem dX6_hired_125 : decode cX6_hired 125 = .ok (.iload 5, 2) := by decide +kernel
theorem dX6_hired_127 : decode cX6_hired 127 = .ok (.istore_n 3, 1) := by decide +kernel
theorem dX6_hired_128 : decode cX6_hired 128 = .ok (.iinc 4 1, 3) := by decide +kernel
theorem dX6_hired_131 : decode cX6_hired 131 = .ok (.goto (-61), 3) := by decide +kernel
theorem dX6_hired_134 : decode cX6_hired 134 = .ok (.iload_n 2, 1) := by decide +kernel
theorem dX6_hired_135 : decode cX6_hired 135 = .ok (.ireturn, 1) := by decide +kernel
theorem dX6_contrary_0 : decode cX6_contrary 0 = .ok (.iconst 1, 1) := by decide +kernel
theorem dX6_contrary_1 : decode cX6_contrary 1 = .ok (.istore_n 1, 1) := by decide +kernel
theorem dX6_contrary_2 : decode cX6_contrary 2 = .ok (.iload_n 1, 1) := by decide +kernel
theorem dX6_contrary_3 : decode cX6_contrary 3 = .ok (.aload_n 0, 1) := by decide +kernel
theorem dX6_contrary_4 : decode cX6_contrary 4 = .ok (.getfield 27, 3) := by decide +kernel
theorem dX6_contrary_7 : decode cX6_contrary 7 = .ok (.getfield 68, 3) := by decide +kernel
theorem dX6_contrary_10 : decode cX6_contrary 10 = .ok (.getfield 115, 3) := by decide +kernel
theorem dX6_contrary_13 : decode cX6_contrary 13 = .ok (.if_icmp .ge 47, 3) := by decide +kernel
theorem dX6_contrary_16 : decode cX6_contrary 16 = .ok (.iload_n 1, 1) := by decide +kernel
theorem dX6_contrary_17 : decode cX6_contrary 17 = .ok (.bipush 30, 2) := by decide +kernel
theorem dX6_contrary_19 : decode cX6_contrary 19 = .ok (.if_icmp .ge 41, 3) := by decide +kernel
theorem dX6_contrary_22 : decode cX6_contrary 22 = .ok (.iconst 0, 1) := by decide +kernel
theorem dX6_contrary_23 : decode cX6_contrary 23 = .ok (.istore_n 2, 1) := by decide +kernel
theorem dX6_contrary_24 : decode cX6_contrary 24 = .ok (.iload_n 2, 1) := by decide +kernel
theorem dX6_contrary_25 : decode cX6_contrary 25 = .ok (.iload_n 1, 1) := by decide +kernel
theorem dX6_contrary_26 : decode cX6_contrary 26 = .ok (.if_icmp .ge 28, 3) := by decide +kernel
theorem dX6_contrary_29 : decode cX6_contrary 29 = .ok (.aload_n 0, 1) := by decide +kernel
theorem dX6_contrary_30 : decode cX6_contrary 30 = .ok (.getfield 27, 3) := by decide +kernel
theorem dX6_contrary_33 : decode cX6_contrary 33 = .ok (.iload_n 2, 1) := by decide +kernel
theorem dX6_contrary_34 : decode cX6_contrary 34 = .ok (.iload_n 1, 1) := by decide +kernel
theorem dX6_contrary_35 : decode cX6_contrary 35 = .ok (.invokevirtual 242, 3) := by decide +kernel
theorem dX6_contrary_38 : decode cX6_contrary 38 = .ok (.ifCond .eq 10, 3) := by decide +kernel
theorem dX6_contrary_41 : decode cX6_contrary 41 = .ok (.bipush 30, 2) := by decide +kernel
theorem dX6_contrary_43 : decode cX6_contrary 43 = .ok (.iload_n 2, 1) := by decide +kernel
theorem dX6_contrary_44 : decode cX6_contrary 44 = .ok (.imul, 1) := by decide +kernel
theorem dX6_contrary_45 : decode cX6_contrary 45 = .ok (.iload_n 1, 1) := by decide +kernel
theorem dX6_contrary_46 : decode cX6_contrary 46 = .ok (.iadd, 1) := by decide +kernel
theorem dX6_contrary_47 : decode cX6_contrary 47 = .ok (.ireturn, 1) := by decide +kernel
theorem dX6_contrary_48 : decode cX6_contrary 48 = .ok (.iinc 2 1, 3) := by decide +kernel
theorem dX6_contrary_51 : decode cX6_contrary 51 = .ok (.goto (-27), 3) := by decide +kernel
theorem dX6_contrary_54 : decode cX6_contrary 54 = .ok (.iinc 1 1, 3) := by decide +kernel
theorem dX6_contrary_57 : decode cX6_contrary 57 = .ok (.goto (-55), 3) := by decide +kernel
theorem dX6_contrary_60 : decode cX6_contrary 60 = .ok (.iconst (-1), 1) := by decide +kernel
theorem dX6_contrary_61 : decode cX6_contrary 61 = .ok (.ireturn, 1) := by decide +kernel
theorem dX6_odds_0 : decode cX6_odds 0 = .ok (.iload_n 1, 1) := by decide +kernel
theorem dX6_odds_1 : decode cX6_odds 1 = .ok (.sipush (-9999), 3) := by decide +kernel
theorem dX6_odds_4 : decode cX6_odds 4 = .ok (.if_icmp .lt 20, 3) := by decide +kernel
theorem dX6_odds_7 : decode cX6_odds 7 = .ok (.iload_n 1, 1) := by decide +kernel
theorem dX6_odds_8 : decode cX6_odds 8 = .ok (.sipush 9999, 3) := by decide +kernel
theorem dX6_odds_11 : decode cX6_odds 11 = .ok (.if_icmp .gt 13, 3) := by decide +kernel
theorem dX6_odds_14 : decode cX6_odds 14 = .ok (.iload_n 2, 1) := by decide +kernel
theorem dX6_odds_15 : decode cX6_odds 15 = .ok (.ifCond .lt 9, 3) := by decide +kernel
theorem dX6_odds_18 : decode cX6_odds 18 = .ok (.iload_n 2, 1) := by decide +kernel
theorem dX6_odds_19 : decode cX6_odds 19 = .ok (.bipush 6, 2) := by decide +kernel
theorem dX6_odds_21 : decode cX6_odds 21 = .ok (.if_icmp .le 7, 3) := by decide +kernel
theorem dX6_odds_24 : decode cX6_odds 24 = .ok (.ldc2_w 246, 3) := by decide +kernel
theorem dX6_odds_27 : decode cX6_odds 27 = .ok (.lreturn, 1) := by decide +kernel
theorem dX6_odds_28 : decode cX6_odds 28 = .ok (.aload_n 0, 1) := by decide +kernel
theorem dX6_odds_29 : decode cX6_odds 29 = .ok (.iload_n 1, 1) := by decide +kernel
theorem dX6_odds_30 : decode cX6_odds 30 = .ok (.iload_n 2, 1) := by decide +kernel
theorem dX6_odds_31 : decode cX6_odds 31 = .ok (.invokevirtual 248, 3) := by decide +kernel
theorem dX6_odds_34 : decode cX6_odds 34 = .ok (.istore 4, 2) := by decide +kernel
theorem dX6_odds_36 : decode cX6_odds 36 = .ok (.iconst 1, 1) := by decide +kernel
theorem dX6_odds_37 : decode cX6_odds 37 = .ok (.iconst 2, 1) := by decide +kernel
theorem dX6_odds_38 : decode cX6_odds 38 = .ok (.iload_n 2, 1) := by decide +kernel
theorem dX6_odds_39 : decode cX6_odds 39 = .ok (.imul, 1) := by decide +kernel
theorem dX6_odds_40 : decode cX6_odds 40 = .ok (.ishl, 1) := by decide +kernel
theorem dX6_odds_41 : decode cX6_odds 41 = .ok (.istore 5, 2) := by decide +kernel
theorem dX6_odds_43 : decode cX6_odds 43 = .ok (.iconst 0, 1) := by decide +kernel
theorem dX6_odds_44 : decode cX6_odds 44 = .ok (.istore 6, 2) := by decide +kernel
theorem dX6_odds_46 : decode cX6_odds 46 = .ok (.iload 6, 2) := by decide +kernel
theorem dX6_odds_48 : decode cX6_odds 48 = .ok (.iconst 2, 1) := by decide +kernel
theorem dX6_odds_49 : decode cX6_odds 49 = .ok (.iload_n 2, 1) := by decide +kernel
theorem dX6_odds_50 : decode cX6_odds 50 = .ok (.imul, 1) := by decide +kernel
theorem dX6_odds_51 : decode cX6_odds 51 = .ok (.if_icmp .ge 28, 3) := by decide +kernel
theorem dX6_odds_54 : decode cX6_odds 54 = .ok (.iload 4, 2) := by decide +kernel
theorem dX6_odds_56 : decode cX6_odds 56 = .ok (.iconst 1, 1) := by decide +kernel
theorem dX6_odds_57 : decode cX6_odds 57 = .ok (.iand, 1) := by decide +kernel
theorem dX6_odds_58 : decode cX6_odds 58 = .ok (.ifCond .ne 21, 3) := by decide +kernel
theorem dX6_odds_61 : decode cX6_odds 61 = .ok (.iload 4, 2) := by decide +kernel
theorem dX6_odds_63 : decode cX6_odds 63 = .ok (.iconst 1, 1) := by decide +kernel
theorem dX6_odds_64 : decode cX6_odds 64 = .ok (.ishr, 1) := by decide +kernel
theorem dX6_odds_65 : decode cX6_odds 65 = .ok (.istore 4, 2) := by decide +kernel
theorem dX6_odds_67 : decode cX6_odds 67 = .ok (.iload 5, 2) := by decide +kernel
theorem dX6_odds_69 : decode cX6_odds 69 = .ok (.iconst 1, 1) := by decide +kernel
theorem dX6_odds_70 : decode cX6_odds 70 = .ok (.ishr, 1) := by decide +kernel
theorem dX6_odds_71 : decode cX6_odds 71 = .ok (.istore 5, 2) := by decide +kernel
theorem dX6_odds_73 : decode cX6_odds 73 = .ok (.iinc 6 1, 3) := by decide +kernel
theorem dX6_odds_76 : decode cX6_odds 76 = .ok (.goto (-30), 3) := by decide +kernel
theorem dX6_odds_79 : decode cX6_odds 79 = .ok (.iload_n 3, 1) := by decide +kernel
theorem dX6_odds_80 : decode cX6_odds 80 = .ok (.ifCond .eq 9, 3) := by decide +kernel
theorem dX6_odds_83 : decode cX6_odds 83 = .ok (.iload 5, 2) := by decide +kernel
theorem dX6_odds_85 : decode cX6_odds 85 = .ok (.i2l, 1) := by decide +kernel
theorem dX6_odds_86 : decode cX6_odds 86 = .ok (.goto 6, 3) := by decide +kernel
theorem dX6_odds_89 : decode cX6_odds 89 = .ok (.iload 4, 2) := by decide +kernel
theorem dX6_odds_91 : decode cX6_odds 91 = .ok (.i2l, 1) := by decide +kernel
theorem dX6_odds_92 : decode cX6_odds 92 = .ok (.lreturn, 1) := by decide +kernel
theorem dX6_tell_0 : decode cX6_tell 0 = .ok (.iload_n 1, 1) := by decide +kernel
theorem dX6_tell_1 : decode cX6_tell 1 = .ok (.iconst (-1), 1) := by decide +kernel
theorem dX6_tell_2 : decode cX6_tell 2 = .ok (.if_icmp .ne 12, 3) := by decide +kernel
theorem dX6_tell_5 : decode cX6_tell 5 = .ok (.aload_n 0, 1) := by decide +kernel
theorem dX6_tell_6 : decode cX6_tell 6 = .ok (.getfield 27, 3) := by decide +kernel
theorem dX6_tell_9 : decode cX6_tell 9 = .ok (.invokevirtual 252, 3) := by decide +kernel
theorem dX6_tell_12 : decode cX6_tell 12 = .ok (.iconst 0, 1) := by decide +kernel
theorem dX6_tell_13 : decode cX6_tell 13 = .ok (.ireturn, 1) := by decide +kernel
theorem dX6_tell_14 : decode cX6_tell 14 = .ok (.aload_n 0, 1) := by decide +kernel
theorem dX6_tell_15 : decode cX6_tell 15 = .ok (.iload_n 1, 1) := by decide +kernel
theorem dX6_tell_16 : decode cX6_tell 16 = .ok (.invokevirtual 92, 3) := by decide +kernel
theorem dX6_tell_19 : decode cX6_tell 19 = .ok (.ifCond .eq 27, 3) := by decide +kernel
theorem dX6_tell_22 : decode cX6_tell 22 = .ok (.iload_n 2, 1) := by decide +kernel
theorem dX6_tell_23 : decode cX6_tell 23 = .ok (.iconst 1, 1) := by decide +kernel
theorem dX6_tell_24 : decode cX6_tell 24 = .ok (.if_icmp .lt 22, 3) := by decide +kernel
theorem dX6_tell_27 : decode cX6_tell 27 = .ok (.iload_n 2, 1) := by decide +kernel
theorem dX6_tell_28 : decode cX6_tell 28 = .ok (.sipush 999, 3) := by decide +kernel
theorem dX6_tell_31 : decode cX6_tell 31 = .ok (.if_icmp .gt 15, 3) := by decide +kernel
theorem dX6_tell_34 : decode cX6_tell 34 = .ok (.aload_n 0, 1) := by decide +kernel
theorem dX6_tell_35 : decode cX6_tell 35 = .ok (.getfield 27, 3) := by decide +kernel
theorem dX6_tell_38 : decode cX6_tell 38 = .ok (.getfield 255, 3) := by decide +kernel
theorem dX6_tell_41 : decode cX6_tell 41 = .ok (.bipush 20, 2) := by decide +kernel
theorem dX6_tell_43 : decode cX6_tell 43 = .ok (.if_icmp .lt 6, 3) := by decide +kernel
theorem dX6_tell_46 : decode cX6_tell 46 = .ok (.bipush (-2), 2) := by decide +kernel
theorem dX6_tell_48 : decode cX6_tell 48 = .ok (.ireturn, 1) := by decide +kernel
theorem dX6_tell_49 : decode cX6_tell 49 = .ok (.aload_n 0, 1) := by decide +kernel
theorem dX6_tell_50 : decode cX6_tell 50 = .ok (.getfield 27, 3) := by decide +kernel
theorem dX6_tell_53 : decode cX6_tell 53 = .ok (.getfield 258, 3) := by decide +kernel
theorem dX6_tell_56 : decode cX6_tell 56 = .ok (.iload_n 1, 1) := by decide +kernel
theorem dX6_tell_57 : decode cX6_tell 57 = .ok (.dup2, 1) := by decide +kernel
theorem dX6_tell_58 : decode cX6_tell 58 = .ok (.iaload, 1) := by decide +kernel
theorem dX6_tell_59 : decode cX6_tell 59 = .ok (.iload_n 2, 1) := by decide +kernel
theorem dX6_tell_60 : decode cX6_tell 60 = .ok (.iadd, 1) := by decide +kernel
theorem dX6_tell_61 : decode cX6_tell 61 = .ok (.iastore, 1) := by decide +kernel
theorem dX6_tell_62 : decode cX6_tell 62 = .ok (.aload_n 0, 1) := by decide +kernel
theorem dX6_tell_63 : decode cX6_tell 63 = .ok (.getfield 27, 3) := by decide +kernel
theorem dX6_tell_66 : decode cX6_tell 66 = .ok (.dup, 1) := by decide +kernel
theorem dX6_tell_67 : decode cX6_tell 67 = .ok (.getfield 255, 3) := by decide +kernel
theorem dX6_tell_70 : decode cX6_tell 70 = .ok (.iconst 1, 1) := by decide +kernel
theorem dX6_tell_71 : decode cX6_tell 71 = .ok (.iadd, 1) := by decide +kernel
theorem dX6_tell_72 : decode cX6_tell 72 = .ok (.putfield 255, 3) := by decide +kernel
theorem dX6_tell_75 : decode cX6_tell 75 = .ok (.aload_n 0, 1) := by decide +kernel
theorem dX6_tell_76 : decode cX6_tell 76 = .ok (.getfield 27, 3) := by decide +kernel
theorem dX6_tell_79 : decode cX6_tell 79 = .ok (.getfield 255, 3) := by decide +kernel
theorem dX6_tell_82 : decode cX6_tell 82 = .ok (.ireturn, 1) := by decide +kernel
theorem dX6_liars_0 : decode cX6_liars 0 = .ok (.iconst 0, 1) := by decide +kernel
theorem dX6_liars_1 : decode cX6_liars 1 = .ok (.istore_n 1, 1) := by decide +kernel
theorem dX6_liars_2 : decode cX6_liars 2 = .ok (.iconst 0, 1) := by decide +kernel
theorem dX6_liars_3 : decode cX6_liars 3 = .ok (.istore_n 2, 1) := by decide +kernel
theorem dX6_liars_4 : decode cX6_liars 4 = .ok (.iload_n 2, 1) := by decide +kernel
theorem dX6_liars_5 : decode cX6_liars 5 = .ok (.aload_n 0, 1) := by decide +kernel
theorem dX6_liars_6 : decode cX6_liars 6 = .ok (.getfield 27, 3) := by decide +kernel
theorem dX6_liars_9 : decode cX6_liars 9 = .ok (.getfield 77, 3) := by decide +kernel
theorem dX6_liars_12 : decode cX6_liars 12 = .ok (.if_icmp .ge 32, 3) := by decide +kernel
theorem dX6_liars_15 : decode cX6_liars 15 = .ok (.iload_n 2, 1) := by decide +kernel
theorem dX6_liars_16 : decode cX6_liars 16 = .ok (.bipush 9, 2) := by decide +kernel
theorem dX6_liars_18 : decode cX6_liars 18 = .ok (.if_icmp .ge 26, 3) := by decide +kernel
theorem dX6_liars_21 : decode cX6_liars 21 = .ok (.aload_n 0, 1) := by decide +kernel
theorem dX6_liars_22 : decode cX6_liars 22 = .ok (.getfield 27, 3) := by decide +kernel
theorem dX6_liars_25 : decode cX6_liars 25 = .ok (.iload_n 2, 1) := by decide +kernel
theorem dX6_liars_26 : decode cX6_liars 26 = .ok (.invokevirtual 261, 3) := by decide +kernel
theorem dX6_liars_29 : decode cX6_liars 29 = .ok (.ifCond .eq 9, 3) := by decide +kernel
theorem dX6_liars_32 : decode cX6_liars 32 = .ok (.iload_n 1, 1) := by decide +kernel
theorem dX6_liars_33 : decode cX6_liars 33 = .ok (.iconst 1, 1) := by decide +kernel
theorem dX6_liars_34 : decode cX6_liars 34 = .ok (.iload_n 2, 1) := by decide +kernel
theorem dX6_liars_35 : decode cX6_liars 35 = .ok (.ishl, 1) := by decide +kernel
theorem dX6_liars_36 : decode cX6_liars 36 = .ok (.ior, 1) := by decide +kernel
theorem dX6_liars_37 : decode cX6_liars 37 = .ok (.istore_n 1, 1) := by decide +kernel
theorem dX6_liars_38 : decode cX6_liars 38 = .ok (.iinc 2 1, 3) := by decide +kernel
theorem dX6_liars_41 : decode cX6_liars 41 = .ok (.goto (-37), 3) := by decide +kernel
theorem dX6_liars_44 : decode cX6_liars 44 = .ok (.iload_n 1, 1) := by decide +kernel
theorem dX6_liars_45 : decode cX6_liars 45 = .ok (.ireturn, 1) := by decide +kernel
theorem dX6_inWhoseName_0 : decode cX6_inWhoseName 0 = .ok (.aload_n 0, 1) := by decide +kernel
theorem dX6_inWhoseName_1 : decode cX6_inWhoseName 1 = .ok (.iload_n 1, 1) := by decide +kernel
theorem dX6_inWhoseName_2 : decode cX6_inWhoseName 2 = .ok (.invokevirtual 92, 3) := by decide +kernel
theorem dX6_inWhoseName_5 : decode cX6_inWhoseName 5 = .ok (.ifCond .eq 15, 3) := by decide +kernel
theorem dX6_inWhoseName_8 : decode cX6_inWhoseName 8 = .ok (.aload_n 0, 1) := by decide +kernel
theorem dX6_inWhoseName_9 : decode cX6_inWhoseName 9 = .ok (.getfield 27, 3) := by decide +kernel
theorem dX6_inWhoseName_12 : decode cX6_inWhoseName 12 = .ok (.iload_n 1, 1) := by decide +kernel
theorem dX6_inWhoseName_13 : decode cX6_inWhoseName 13 = .ok (.invokevirtual 261, 3) := by decide +kernel
theorem dX6_inWhoseName_16 : decode cX6_inWhoseName 16 = .ok (.iconst 1, 1) := by decide +kernel
theorem dX6_inWhoseName_17 : decode cX6_inWhoseName 17 = .ok (.if_icmp .ge 5, 3) := by decide +kernel
theorem dX6_inWhoseName_20 : decode cX6_inWhoseName 20 = .ok (.iconst (-1), 1) := by decide +kernel
theorem dX6_inWhoseName_21 : decode cX6_inWhoseName 21 = .ok (.ireturn, 1) := by decide +kernel
theorem dX6_inWhoseName_22 : decode cX6_inWhoseName 22 = .ok (.aload_n 0, 1) := by decide +kernel
theorem dX6_inWhoseName_23 : decode cX6_inWhoseName 23 = .ok (.getfield 27, 3) := by decide +kernel
theorem dX6_inWhoseName_26 : decode cX6_inWhoseName 26 = .ok (.iload_n 1, 1) := by decide +kernel
theorem dX6_inWhoseName_27 : decode cX6_inWhoseName 27 = .ok (.invokevirtual 261, 3) := by decide +kernel
theorem dX6_inWhoseName_30 : decode cX6_inWhoseName 30 = .ok (.istore_n 2, 1) := by decide +kernel
theorem dX6_inWhoseName_31 : decode cX6_inWhoseName 31 = .ok (.iconst 0, 1) := by decide +kernel
theorem dX6_inWhoseName_32 : decode cX6_inWhoseName 32 = .ok (.istore_n 3, 1) := by decide +kernel
theorem dX6_inWhoseName_33 : decode cX6_inWhoseName 33 = .ok (.iload_n 3, 1) := by decide +kernel
theorem dX6_inWhoseName_34 : decode cX6_inWhoseName 34 = .ok (.aload_n 0, 1) := by decide +kernel
theorem dX6_inWhoseName_35 : decode cX6_inWhoseName 35 = .ok (.getfield 27, 3) := by decide +kernel
theorem dX6_inWhoseName_38 : decode cX6_inWhoseName 38 = .ok (.getfield 77, 3) := by decide +kernel
theorem dX6_inWhoseName_41 : decode cX6_inWhoseName 41 = .ok (.if_icmp .ge 35, 3) := by decide +kernel
theorem dX6_inWhoseName_44 : decode cX6_inWhoseName 44 = .ok (.iload_n 3, 1) := by decide +kernel
theorem dX6_inWhoseName_45 : decode cX6_inWhoseName 45 = .ok (.bipush 9, 2) := by decide +kernel
theorem dX6_inWhoseName_47 : decode cX6_inWhoseName 47 = .ok (.if_icmp .ge 29, 3) := by decide +kernel
theorem dX6_inWhoseName_50 : decode cX6_inWhoseName 50 = .ok (.iload_n 3, 1) := by decide +kernel
theorem dX6_inWhoseName_51 : decode cX6_inWhoseName 51 = .ok (.iload_n 1, 1) := by decide +kernel
theorem dX6_inWhoseName_52 : decode cX6_inWhoseName 52 = .ok (.if_icmp .eq 18, 3) := by decide +kernel
theorem dX6_inWhoseName_55 : decode cX6_inWhoseName 55 = .ok (.aload_n 0, 1) := by decide +kernel
theorem dX6_inWhoseName_56 : decode cX6_inWhoseName 56 = .ok (.getfield 27, 3) := by decide +kernel
theorem dX6_inWhoseName_59 : decode cX6_inWhoseName 59 = .ok (.iload_n 3, 1) := by decide +kernel
theorem dX6_inWhoseName_60 : decode cX6_inWhoseName 60 = .ok (.invokevirtual 261, 3) := by decide +kernel
theorem dX6_inWhoseName_63 : decode cX6_inWhoseName 63 = .ok (.iload_n 2, 1) := by decide +kernel
theorem dX6_inWhoseName_64 : decode cX6_inWhoseName 64 = .ok (.ineg, 1) := by decide +kernel
theorem dX6_inWhoseName_65 : decode cX6_inWhoseName 65 = .ok (.if_icmp .ne 5, 3) := by decide +kernel
theorem dX6_inWhoseName_68 : decode cX6_inWhoseName 68 = .ok (.iload_n 3, 1) := by decide +kernel
theorem dX6_inWhoseName_69 : decode cX6_inWhoseName 69 = .ok (.ireturn, 1) := by decide +kernel
theorem dX6_inWhoseName_70 : decode cX6_inWhoseName 70 = .ok (.iinc 3 1, 3) := by decide +kernel
theorem dX6_inWhoseName_73 : decode cX6_inWhoseName 73 = .ok (.goto (-40), 3) := by decide +kernel
theorem dX6_inWhoseName_76 : decode cX6_inWhoseName 76 = .ok (.iconst (-1), 1) := by decide +kernel
theorem dX6_inWhoseName_77 : decode cX6_inWhoseName 77 = .ok (.ireturn, 1) := by decide +kernel
theorem dX6_image_0 : decode cX6_image 0 = .ok (.aload_n 0, 1) := by decide +kernel
theorem dX6_image_1 : decode cX6_image 1 = .ok (.getfield 31, 3) := by decide +kernel
theorem dX6_image_4 : decode cX6_image 4 = .ok (.aload_n 0, 1) := by decide +kernel
theorem dX6_image_5 : decode cX6_image 5 = .ok (.getfield 27, 3) := by decide +kernel
theorem dX6_image_8 : decode cX6_image 8 = .ok (.invokevirtual 264, 3) := by decide +kernel
theorem dX6_image_11 : decode cX6_image 11 = .ok (.aload_n 0, 1) := by decide +kernel
theorem dX6_image_12 : decode cX6_image 12 = .ok (.getfield 27, 3) := by decide +kernel
theorem dX6_image_15 : decode cX6_image 15 = .ok (.getfield 68, 3) := by decide +kernel
theorem dX6_image_18 : decode cX6_image 18 = .ok (.getfield 101, 3) := by decide +kernel
theorem dX6_image_21 : decode cX6_image 21 = .ok (.ireturn, 1) := by decide +kernel
theorem dX6_back_0 : decode cX6_back 0 = .ok (.aload_n 0, 1) := by decide +kernel
theorem dX6_back_1 : decode cX6_back 1 = .ok (.invokevirtual 65, 3) := by decide +kernel
theorem dX6_back_4 : decode cX6_back 4 = .ok (.aload_n 0, 1) := by decide +kernel
theorem dX6_back_5 : decode cX6_back 5 = .ok (.getfield 27, 3) := by decide +kernel
theorem dX6_back_8 : decode cX6_back 8 = .ok (.aload_n 0, 1) := by decide +kernel
theorem dX6_back_9 : decode cX6_back 9 = .ok (.getfield 31, 3) := by decide +kernel
theorem dX6_back_12 : decode cX6_back 12 = .ok (.invokevirtual 264, 3) := by decide +kernel
theorem dX6_back_15 : decode cX6_back 15 = .ok (.aload_n 0, 1) := by decide +kernel
theorem dX6_back_16 : decode cX6_back 16 = .ok (.getfield 27, 3) := by decide +kernel
theorem dX6_back_19 : decode cX6_back 19 = .ok (.getfield 68, 3) := by decide +kernel
theorem dX6_back_22 : decode cX6_back 22 = .ok (.getfield 101, 3) := by decide +kernel
theorem dX6_back_25 : decode cX6_back 25 = .ok (.ireturn, 1) := by decide +kernel
theorem dX6_about_0 : decode cX6_about 0 = .ok (.iload_n 1, 1) := by decide +kernel
theorem dX6_about_1 : decode cX6_about 1 = .ok (.tableswitch 145 0 9 #[55, 63, 78, 89, 100, 108, 116, 124, 132, 140], 55) := by decide +kernel
theorem dX6_about_56 : decode cX6_about 56 = .ok (.aload_n 0, 1) := by decide +kernel
theorem dX6_about_57 : decode cX6_about 57 = .ok (.getfield 27, 3) := by decide +kernel
theorem dX6_about_60 : decode cX6_about 60 = .ok (.getfield 77, 3) := by decide +kernel
theorem dX6_about_63 : decode cX6_about 63 = .ok (.ireturn, 1) := by decide +kernel
theorem dX6_about_64 : decode cX6_about 64 = .ok (.aload_n 0, 1) := by decide +kernel
theorem dX6_about_65 : decode cX6_about 65 = .ok (.getfield 27, 3) := by decide +kernel
theorem dX6_about_68 : decode cX6_about 68 = .ok (.getfield 68, 3) := by decide +kernel
theorem dX6_about_71 : decode cX6_about 71 = .ok (.invokevirtual 267, 3) := by decide +kernel
theorem dX6_about_74 : decode cX6_about 74 = .ok (.sipush 10000, 3) := by decide +kernel
theorem dX6_about_77 : decode cX6_about 77 = .ok (.iadd, 1) := by decide +kernel
theorem dX6_about_78 : decode cX6_about 78 = .ok (.ireturn, 1) := by decide +kernel
theorem dX6_about_79 : decode cX6_about 79 = .ok (.aload_n 0, 1) := by decide +kernel
theorem dX6_about_80 : decode cX6_about 80 = .ok (.getfield 27, 3) := by decide +kernel
theorem dX6_about_83 : decode cX6_about 83 = .ok (.getfield 68, 3) := by decide +kernel
theorem dX6_about_86 : decode cX6_about 86 = .ok (.getfield 115, 3) := by decide +kernel
theorem dX6_about_89 : decode cX6_about 89 = .ok (.ireturn, 1) := by decide +kernel
theorem dX6_about_90 : decode cX6_about 90 = .ok (.aload_n 0, 1) := by decide +kernel
theorem dX6_about_91 : decode cX6_about 91 = .ok (.getfield 27, 3) := by decide +kernel
theorem dX6_about_94 : decode cX6_about 94 = .ok (.getfield 68, 3) := by decide +kernel
theorem dX6_about_97 : decode cX6_about 97 = .ok (.getfield 89, 3) := by decide +kernel
theorem dX6_about_100 : decode cX6_about 100 = .ok (.ireturn, 1) := by decide +kernel
theorem dX6_about_101 : decode cX6_about 101 = .ok (.aload_n 0, 1) := by decide +kernel
theorem dX6_about_102 : decode cX6_about 102 = .ok (.getfield 27, 3) := by decide +kernel
theorem dX6_about_105 : decode cX6_about 105 = .ok (.getfield 134, 3) := by decide +kernel
theorem dX6_about_108 : decode cX6_about 108 = .ok (.ireturn, 1) := by decide +kernel
theorem dX6_about_109 : decode cX6_about 109 = .ok (.aload_n 0, 1) := by decide +kernel
theorem dX6_about_110 : decode cX6_about 110 = .ok (.getfield 27, 3) := by decide +kernel
theorem dX6_about_113 : decode cX6_about 113 = .ok (.getfield 154, 3) := by decide +kernel
theorem dX6_about_116 : decode cX6_about 116 = .ok (.ireturn, 1) := by decide +kernel
theorem dX6_about_117 : decode cX6_about 117 = .ok (.aload_n 0, 1) := by decide +kernel
theorem dX6_about_118 : decode cX6_about 118 = .ok (.getfield 27, 3) := by decide +kernel
theorem dX6_about_121 : decode cX6_about 121 = .ok (.getfield 166, 3) := by decide +kernel
theorem dX6_about_124 : decode cX6_about 124 = .ok (.ireturn, 1) := by decide +kernel
theorem dX6_about_125 : decode cX6_about 125 = .ok (.aload_n 0, 1) := by decide +kernel
theorem dX6_about_126 : decode cX6_about 126 = .ok (.getfield 27, 3) := by decide +kernel
theorem dX6_about_129 : decode cX6_about 129 = .ok (.getfield 224, 3) := by decide +kernel
theorem dX6_about_132 : decode cX6_about 132 = .ok (.ireturn, 1) := by decide +kernel
theorem dX6_about_133 : decode cX6_about 133 = .ok (.aload_n 0, 1) := by decide +kernel
theorem dX6_about_134 : decode cX6_about 134 = .ok (.getfield 27, 3) := by decide +kernel
theorem dX6_about_137 : decode cX6_about 137 = .ok (.getfield 255, 3) := by decide +kernel
theorem dX6_about_140 : decode cX6_about 140 = .ok (.ireturn, 1) := by decide +kernel
theorem dX6_about_141 : decode cX6_about 141 = .ok (.aload_n 0, 1) := by decide +kernel
theorem dX6_about_142 : decode cX6_about 142 = .ok (.getfield 45, 3) := by decide +kernel
theorem dX6_about_145 : decode cX6_about 145 = .ok (.ireturn, 1) := by decide +kernel
theorem dX6_about_146 : decode cX6_about 146 = .ok (.iload_n 1, 1) := by decide +kernel
theorem dX6_about_147 : decode cX6_about 147 = .ok (.bipush 10, 2) := by decide +kernel
theorem dX6_about_149 : decode cX6_about 149 = .ok (.if_icmp .lt 27, 3) := by decide +kernel
theorem dX6_about_152 : decode cX6_about 152 = .ok (.iload_n 1, 1) := by decide +kernel
theorem dX6_about_153 : decode cX6_about 153 = .ok (.bipush 14, 2) := by decide +kernel
theorem dX6_about_155 : decode cX6_about 155 = .ok (.if_icmp .ge 21, 3) := by decide +kernel
theorem dX6_about_158 : decode cX6_about 158 = .ok (.aload_n 0, 1) := by decide +kernel
theorem dX6_about_159 : decode cX6_about 159 = .ok (.getfield 27, 3) := by decide +kernel
theorem dX6_about_162 : decode cX6_about 162 = .ok (.getfield 68, 3) := by decide +kernel
theorem dX6_about_165 : decode cX6_about 165 = .ok (.getfield 72, 3) := by decide +kernel
theorem dX6_about_168 : decode cX6_about 168 = .ok (.iload_n 1, 1) := by decide +kernel
theorem dX6_about_169 : decode cX6_about 169 = .ok (.bipush 10, 2) := by decide +kernel
theorem dX6_about_171 : decode cX6_about 171 = .ok (.isub, 1) := by decide +kernel
theorem dX6_about_172 : decode cX6_about 172 = .ok (.iaload, 1) := by decide +kernel
theorem dX6_about_173 : decode cX6_about 173 = .ok (.goto 5, 3) := by decide +kernel
theorem dX6_about_176 : decode cX6_about 176 = .ok (.bipush (-2), 2) := by decide +kernel
theorem dX6_about_178 : decode cX6_about 178 = .ok (.ireturn, 1) := by decide +kernel
theorem dX6_isSide_0 : decode cX6_isSide 0 = .ok (.iload_n 0, 1) := by decide +kernel
theorem dX6_isSide_1 : decode cX6_isSide 1 = .ok (.ifCond .eq 8, 3) := by decide +kernel
theorem dX6_isSide_4 : decode cX6_isSide 4 = .ok (.iload_n 0, 1) := by decide +kernel
theorem dX6_isSide_5 : decode cX6_isSide 5 = .ok (.iconst 1, 1) := by decide +kernel
theorem dX6_isSide_6 : decode cX6_isSide 6 = .ok (.if_icmp .ne 7, 3) := by decide +kernel
theorem dX6_isSide_9 : decode cX6_isSide 9 = .ok (.iconst 1, 1) := by decide +kernel
theorem dX6_isSide_10 : decode cX6_isSide 10 = .ok (.goto 4, 3) := by decide +kernel
theorem dX6_isSide_13 : decode cX6_isSide 13 = .ok (.iconst 0, 1) := by decide +kernel
theorem dX6_isSide_14 : decode cX6_isSide 14 = .ok (.ireturn, 1) := by decide +kernel
theorem dX6_isKind_0 : decode cX6_isKind 0 = .ok (.iload_n 0, 1) := by decide +kernel
theorem dX6_isKind_1 : decode cX6_isKind 1 = .ok (.ifCond .eq 8, 3) := by decide +kernel
theorem dX6_isKind_4 : decode cX6_isKind 4 = .ok (.iload_n 0, 1) := by decide +kernel
theorem dX6_isKind_5 : decode cX6_isKind 5 = .ok (.iconst 1, 1) := by decide +kernel
theorem dX6_isKind_6 : decode cX6_isKind 6 = .ok (.if_icmp .ne 7, 3) := by decide +kernel
theorem dX6_isKind_9 : decode cX6_isKind 9 = .ok (.iconst 1, 1) := by decide +kernel
theorem dX6_isKind_10 : decode cX6_isKind 10 = .ok (.goto 4, 3) := by decide +kernel
theorem dX6_isKind_13 : decode cX6_isKind 13 = .ok (.iconst 0, 1) := by decide +kernel
theorem dX6_isKind_14 : decode cX6_isKind 14 = .ok (.ireturn, 1) := by decide +kernel
theorem dX6_isEater_0 : decode cX6_isEater 0 = .ok (.iload_n 1, 1) := by decide +kernel
theorem dX6_isEater_1 : decode cX6_isEater 1 = .ok (.ifCond .lt 24, 3) := by decide +kernel
theorem dX6_isEater_4 : decode cX6_isEater 4 = .ok (.iload_n 1, 1) := by decide +kernel
theorem dX6_isEater_5 : decode cX6_isEater 5 = .ok (.aload_n 0, 1) := by decide +kernel
theorem dX6_isEater_6 : decode cX6_isEater 6 = .ok (.getfield 27, 3) := by decide +kernel
theorem dX6_isEater_9 : decode cX6_isEater 9 = .ok (.getfield 77, 3) := by decide +kernel
theorem dX6_isEater_12 : decode cX6_isEater 12 = .ok (.if_icmp .ge 13, 3) := by decide +kernel
theorem dX6_isEater_15 : decode cX6_isEater 15 = .ok (.iload_n 1, 1) := by decide +kernel
theorem dX6_isEater_16 : decode cX6_isEater 16 = .ok (.bipush 9, 2) := by decide +kernel
theorem dX6_isEater_18 : decode cX6_isEater 18 = .ok (.if_icmp .ge 7, 3) := by decide +kernel
theorem dX6_isEater_21 : decode cX6_isEater 21 = .ok (.iconst 1, 1) := by decide +kernel
theorem dX6_isEater_22 : decode cX6_isEater 22 = .ok (.goto 4, 3) := by decide +kernel
theorem dX6_isEater_25 : decode cX6_isEater 25 = .ok (.iconst 0, 1) := by decide +kernel
theorem dX6_isEater_26 : decode cX6_isEater 26 = .ok (.ireturn, 1) := by decide +kernel
theorem dX6_isText_0 : decode cX6_isText 0 = .ok (.iload_n 1, 1) := by decide +kernel
theorem dX6_isText_1 : decode cX6_isText 1 = .ok (.ifCond .lt 23, 3) := by decide +kernel
theorem dX6_isText_4 : decode cX6_isText 4 = .ok (.iload_n 1, 1) := by decide +kernel
theorem dX6_isText_5 : decode cX6_isText 5 = .ok (.aload_n 0, 1) := by decide +kernel
theorem dX6_isText_6 : decode cX6_isText 6 = .ok (.getfield 27, 3) := by decide +kernel
theorem dX6_isText_9 : decode cX6_isText 9 = .ok (.getfield 134, 3) := by decide +kernel
theorem dX6_isText_12 : decode cX6_isText 12 = .ok (.if_icmp .ge 12, 3) := by decide +kernel
theorem dX6_isText_15 : decode cX6_isText 15 = .ok (.iload_n 1, 1) := by decide +kernel
theorem dX6_isText_16 : decode cX6_isText 16 = .ok (.iconst 4, 1) := by decide +kernel
theorem dX6_isText_17 : decode cX6_isText 17 = .ok (.if_icmp .ge 7, 3) := by decide +kernel
theorem dX6_isText_20 : decode cX6_isText 20 = .ok (.iconst 1, 1) := by decide +kernel
theorem dX6_isText_21 : decode cX6_isText 21 = .ok (.goto 4, 3) := by decide +kernel
theorem dX6_isText_24 : decode cX6_isText 24 = .ok (.iconst 0, 1) := by decide +kernel
theorem dX6_isText_25 : decode cX6_isText 25 = .ok (.ireturn, 1) := by decide +kernel
theorem dX6_forgetSought_0 : decode cX6_forgetSought 0 = .ok (.aload_n 0, 1) := by decide +kernel
theorem dX6_forgetSought_1 : decode cX6_forgetSought 1 = .ok (.iconst (-1), 1) := by decide +kernel
theorem dX6_forgetSought_2 : decode cX6_forgetSought 2 = .ok (.putfield 55, 3) := by decide +kernel
theorem dX6_forgetSought_5 : decode cX6_forgetSought 5 = .ok (.return_, 1) := by decide +kernel
theorem dX6_putBytes_0 : decode cX6_putBytes 0 = .ok (.bipush 24, 2) := by decide +kernel
theorem dX6_putBytes_2 : decode cX6_putBytes 2 = .ok (.istore_n 2, 1) := by decide +kernel
theorem dX6_putBytes_3 : decode cX6_putBytes 3 = .ok (.iload_n 2, 1) := by decide +kernel
theorem dX6_putBytes_4 : decode cX6_putBytes 4 = .ok (.ifCond .lt 53, 3) := by decide +kernel
theorem dX6_putBytes_7 : decode cX6_putBytes 7 = .ok (.aload_n 0, 1) := by decide +kernel
theorem dX6_putBytes_8 : decode cX6_putBytes 8 = .ok (.getfield 45, 3) := by decide +kernel
theorem dX6_putBytes_11 : decode cX6_putBytes 11 = .ok (.aload_n 0, 1) := by decide +kernel
theorem dX6_putBytes_12 : decode cX6_putBytes 12 = .ok (.getfield 37, 3) := by decide +kernel
theorem dX6_putBytes_15 : decode cX6_putBytes 15 = .ok (.getfield 270, 3) := by decide +kernel
theorem dX6_putBytes_18 : decode cX6_putBytes 18 = .ok (.arraylength, 1) := by decide +kernel
theorem dX6_putBytes_19 : decode cX6_putBytes 19 = .ok (.if_icmp .ge 32, 3) := by decide +kernel
theorem dX6_putBytes_22 : decode cX6_putBytes 22 = .ok (.aload_n 0, 1) := by decide +kernel
theorem dX6_putBytes_23 : decode cX6_putBytes 23 = .ok (.getfield 37, 3) := by decide +kernel
theorem dX6_putBytes_26 : decode cX6_putBytes 26 = .ok (.getfield 270, 3) := by decide +kernel
theorem dX6_putBytes_29 : decode cX6_putBytes 29 = .ok (.aload_n 0, 1) := by decide +kernel
theorem dX6_putBytes_30 : decode cX6_putBytes 30 = .ok (.getfield 45, 3) := by decide +kernel
theorem dX6_putBytes_33 : decode cX6_putBytes 33 = .ok (.iload_n 1, 1) := by decide +kernel
theorem dX6_putBytes_34 : decode cX6_putBytes 34 = .ok (.iload_n 2, 1) := by decide +kernel
theorem dX6_putBytes_35 : decode cX6_putBytes 35 = .ok (.iushr, 1) := by decide +kernel
theorem dX6_putBytes_36 : decode cX6_putBytes 36 = .ok (.sipush 255, 3) := by decide +kernel
theorem dX6_putBytes_39 : decode cX6_putBytes 39 = .ok (.iand, 1) := by decide +kernel
theorem dX6_putBytes_40 : decode cX6_putBytes 40 = .ok (.iastore, 1) := by decide +kernel
theorem dX6_putBytes_41 : decode cX6_putBytes 41 = .ok (.aload_n 0, 1) := by decide +kernel
theorem dX6_putBytes_42 : decode cX6_putBytes 42 = .ok (.dup, 1) := by decide +kernel
theorem dX6_putBytes_43 : decode cX6_putBytes 43 = .ok (.getfield 45, 3) := by decide +kernel
theorem dX6_putBytes_46 : decode cX6_putBytes 46 = .ok (.iconst 1, 1) := by decide +kernel
theorem dX6_putBytes_47 : decode cX6_putBytes 47 = .ok (.iadd, 1) := by decide +kernel
theorem dX6_putBytes_48 : decode cX6_putBytes 48 = .ok (.putfield 45, 3) := by decide +kernel
theorem dX6_putBytes_51 : decode cX6_putBytes 51 = .ok (.iinc 2 (-8), 3) := by decide +kernel
theorem dX6_putBytes_54 : decode cX6_putBytes 54 = .ok (.goto (-51), 3) := by decide +kernel
theorem dX6_putBytes_57 : decode cX6_putBytes 57 = .ok (.return_, 1) := by decide +kernel
theorem dX6_playClause_0 : decode cX6_playClause 0 = .ok (.aload_n 1, 1) := by decide +kernel
theorem dX6_playClause_1 : decode cX6_playClause 1 = .ok (.getfield 273, 3) := by decide +kernel
theorem dX6_playClause_4 : decode cX6_playClause 4 = .ok (.iload_n 2, 1) := by decide +kernel
theorem dX6_playClause_5 : decode cX6_playClause 5 = .ok (.iaload, 1) := by decide +kernel
theorem dX6_playClause_6 : decode cX6_playClause 6 = .ok (.istore_n 3, 1) := by decide +kernel
theorem dX6_playClause_7 : decode cX6_playClause 7 = .ok (.aload_n 1, 1) := by decide +kernel
theorem dX6_playClause_8 : decode cX6_playClause 8 = .ok (.getfield 276, 3) := by decide +kernel
theorem dX6_playClause_11 : decode cX6_playClause 11 = .ok (.iload_n 2, 1) := by decide +kernel
theorem dX6_playClause_12 : decode cX6_playClause 12 = .ok (.iaload, 1) := by decide +kernel
theorem dX6_playClause_13 : decode cX6_playClause 13 = .ok (.istore 4, 2) := by decide +kernel
theorem dX6_playClause_15 : decode cX6_playClause 15 = .ok (.aload_n 1, 1) := by decide +kernel
theorem dX6_playClause_16 : decode cX6_playClause 16 = .ok (.getfield 279, 3) := by decide +kernel
theorem dX6_playClause_19 : decode cX6_playClause 19 = .ok (.iload_n 2, 1) := by decide +kernel
theorem dX6_playClause_20 : decode cX6_playClause 20 = .ok (.iaload, 1) := by decide +kernel
theorem dX6_playClause_21 : decode cX6_playClause 21 = .ok (.tableswitch 86 3 6 #[31, 39, 56, 71], 31) := by decide +kernel
theorem dX6_playClause_52 : decode cX6_playClause 52 = .ok (.aload_n 0, 1) := by decide +kernel
theorem dX6_playClause_53 : decode cX6_playClause 53 = .ok (.iload_n 3, 1) := by decide +kernel
theorem dX6_playClause_54 : decode cX6_playClause 54 = .ok (.iload 4, 2) := by decide +kernel
theorem dX6_playClause_56 : decode cX6_playClause 56 = .ok (.invokevirtual 282, 3) := by decide +kernel
theorem dX6_playClause_59 : decode cX6_playClause 59 = .ok (.ireturn, 1) := by decide +kernel
theorem dX6_playClause_60 : decode cX6_playClause 60 = .ok (.aload_n 0, 1) := by decide +kernel
theorem dX6_playClause_61 : decode cX6_playClause 61 = .ok (.iload_n 3, 1) := by decide +kernel
theorem dX6_playClause_62 : decode cX6_playClause 62 = .ok (.iload 4, 2) := by decide +kernel
theorem dX6_playClause_64 : decode cX6_playClause 64 = .ok (.invokevirtual 285, 3) := by decide +kernel
theorem dX6_playClause_67 : decode cX6_playClause 67 = .ok (.iconst (-1), 1) := by decide +kernel
theorem dX6_playClause_68 : decode cX6_playClause 68 = .ok (.if_icmp .eq 7, 3) := by decide +kernel
theorem dX6_playClause_71 : decode cX6_playClause 71 = .ok (.iconst 1, 1) := by decide +kernel
theorem dX6_playClause_72 : decode cX6_playClause 72 = .ok (.goto 4, 3) := by decide +kernel
theorem dX6_playClause_75 : decode cX6_playClause 75 = .ok (.iconst 0, 1) := by decide +kernel
theorem dX6_playClause_76 : decode cX6_playClause 76 = .ok (.ireturn, 1) := by decide +kernel
theorem dX6_playClause_77 : decode cX6_playClause 77 = .ok (.aload_n 0, 1) := by decide +kernel
theorem dX6_playClause_78 : decode cX6_playClause 78 = .ok (.iload_n 3, 1) := by decide +kernel
theorem dX6_playClause_79 : decode cX6_playClause 79 = .ok (.invokevirtual 288, 3) := by decide +kernel
theorem dX6_playClause_82 : decode cX6_playClause 82 = .ok (.iconst (-1), 1) := by decide +kernel
theorem dX6_playClause_83 : decode cX6_playClause 83 = .ok (.if_icmp .eq 7, 3) := by decide +kernel
theorem dX6_playClause_86 : decode cX6_playClause 86 = .ok (.iconst 1, 1) := by decide +kernel
theorem dX6_playClause_87 : decode cX6_playClause 87 = .ok (.goto 4, 3) := by decide +kernel
theorem dX6_playClause_90 : decode cX6_playClause 90 = .ok (.iconst 0, 1) := by decide +kernel
theorem dX6_playClause_91 : decode cX6_playClause 91 = .ok (.ireturn, 1) := by decide +kernel
theorem dX6_playClause_92 : decode cX6_playClause 92 = .ok (.aload_n 0, 1) := by decide +kernel
theorem dX6_playClause_93 : decode cX6_playClause 93 = .ok (.iload_n 3, 1) := by decide +kernel
theorem dX6_playClause_94 : decode cX6_playClause 94 = .ok (.invokevirtual 291, 3) := by decide +kernel
theorem dX6_playClause_97 : decode cX6_playClause 97 = .ok (.iconst (-1), 1) := by decide +kernel
theorem dX6_playClause_98 : decode cX6_playClause 98 = .ok (.if_icmp .eq 7, 3) := by decide +kernel
theorem dX6_playClause_101 : decode cX6_playClause 101 = .ok (.iconst 1, 1) := by decide +kernel
theorem dX6_playClause_102 : decode cX6_playClause 102 = .ok (.goto 4, 3) := by decide +kernel
theorem dX6_playClause_105 : decode cX6_playClause 105 = .ok (.iconst 0, 1) := by decide +kernel
theorem dX6_playClause_106 : decode cX6_playClause 106 = .ok (.ireturn, 1) := by decide +kernel
theorem dX6_playClause_107 : decode cX6_playClause 107 = .ok (.iconst 1, 1) := by decide +kernel
theorem dX6_playClause_108 : decode cX6_playClause 108 = .ok (.ireturn, 1) := by decide +kernel
theorem dX6_canBeCalled_0 : decode cX6_canBeCalled 0 = .ok (.iload_n 1, 1) := by decide +kernel
theorem dX6_canBeCalled_1 : decode cX6_canBeCalled 1 = .ok (.iconst 1, 1) := by decide +kernel
theorem dX6_canBeCalled_2 : decode cX6_canBeCalled 2 = .ok (.if_icmp .lt 25, 3) := by decide +kernel
theorem dX6_canBeCalled_5 : decode cX6_canBeCalled 5 = .ok (.iload_n 1, 1) := by decide +kernel
theorem dX6_canBeCalled_6 : decode cX6_canBeCalled 6 = .ok (.iconst 1, 1) := by decide +kernel
theorem dX6_canBeCalled_7 : decode cX6_canBeCalled 7 = .ok (.aload_n 0, 1) := by decide +kernel
theorem dX6_canBeCalled_8 : decode cX6_canBeCalled 8 = .ok (.getfield 27, 3) := by decide +kernel
theorem dX6_canBeCalled_11 : decode cX6_canBeCalled 11 = .ok (.getfield 77, 3) := by decide +kernel
theorem dX6_canBeCalled_14 : decode cX6_canBeCalled 14 = .ok (.ishl, 1) := by decide +kernel
theorem dX6_canBeCalled_15 : decode cX6_canBeCalled 15 = .ok (.if_icmp .ge 12, 3) := by decide +kernel
theorem dX6_canBeCalled_18 : decode cX6_canBeCalled 18 = .ok (.iload_n 1, 1) := by decide +kernel
theorem dX6_canBeCalled_19 : decode cX6_canBeCalled 19 = .ok (.invokestatic 193, 3) := by decide +kernel
theorem dX6_canBeCalled_22 : decode cX6_canBeCalled 22 = .ok (.bipush 6, 2) := by decide +kernel
theorem dX6_canBeCalled_24 : decode cX6_canBeCalled 24 = .ok (.if_icmp .le 5, 3) := by decide +kernel
theorem dX6_canBeCalled_27 : decode cX6_canBeCalled 27 = .ok (.iconst 0, 1) := by decide +kernel
theorem dX6_canBeCalled_28 : decode cX6_canBeCalled 28 = .ok (.ireturn, 1) := by decide +kernel
theorem dX6_canBeCalled_29 : decode cX6_canBeCalled 29 = .ok (.iconst 0, 1) := by decide +kernel
theorem dX6_canBeCalled_30 : decode cX6_canBeCalled 30 = .ok (.istore_n 2, 1) := by decide +kernel
theorem dX6_canBeCalled_31 : decode cX6_canBeCalled 31 = .ok (.iload_n 2, 1) := by decide +kernel
theorem dX6_canBeCalled_32 : decode cX6_canBeCalled 32 = .ok (.bipush 9, 2) := by decide +kernel
theorem dX6_canBeCalled_34 : decode cX6_canBeCalled 34 = .ok (.if_icmp .ge 36, 3) := by decide +kernel
theorem dX6_canBeCalled_37 : decode cX6_canBeCalled 37 = .ok (.iload_n 1, 1) := by decide +kernel
theorem dX6_canBeCalled_38 : decode cX6_canBeCalled 38 = .ok (.iload_n 2, 1) := by decide +kernel
theorem dX6_canBeCalled_39 : decode cX6_canBeCalled 39 = .ok (.ishr, 1) := by decide +kernel
theorem dX6_canBeCalled_40 : decode cX6_canBeCalled 40 = .ok (.iconst 1, 1) := by decide +kernel
theorem dX6_canBeCalled_41 : decode cX6_canBeCalled 41 = .ok (.iand, 1) := by decide +kernel
theorem dX6_canBeCalled_42 : decode cX6_canBeCalled 42 = .ok (.iconst 1, 1) := by decide +kernel
theorem dX6_canBeCalled_43 : decode cX6_canBeCalled 43 = .ok (.if_icmp .ne 21, 3) := by decide +kernel
theorem dX6_canBeCalled_46 : decode cX6_canBeCalled 46 = .ok (.aload_n 0, 1) := by decide +kernel
theorem dX6_canBeCalled_47 : decode cX6_canBeCalled 47 = .ok (.getfield 27, 3) := by decide +kernel
theorem dX6_canBeCalled_50 : decode cX6_canBeCalled 50 = .ok (.getfield 68, 3) := by decide +kernel
theorem dX6_canBeCalled_53 : decode cX6_canBeCalled 53 = .ok (.getfield 95, 3) := by decide +kernel
theorem dX6_canBeCalled_56 : decode cX6_canBeCalled 56 = .ok (.iload_n 2, 1) := by decide +kernel
theorem dX6_canBeCalled_57 : decode cX6_canBeCalled 57 = .ok (.iaload, 1) := by decide +kernel
theorem dX6_canBeCalled_58 : decode cX6_canBeCalled 58 = .ok (.iconst 2, 1) := by decide +kernel
theorem dX6_canBeCalled_59 : decode cX6_canBeCalled 59 = .ok (.if_icmp .ne 5, 3) := by decide +kernel
theorem dX6_canBeCalled_62 : decode cX6_canBeCalled 62 = .ok (.iconst 0, 1) := by decide +kernel
theorem dX6_canBeCalled_63 : decode cX6_canBeCalled 63 = .ok (.ireturn, 1) := by decide +kernel
theorem dX6_canBeCalled_64 : decode cX6_canBeCalled 64 = .ok (.iinc 2 1, 3) := by decide +kernel
theorem dX6_canBeCalled_67 : decode cX6_canBeCalled 67 = .ok (.goto (-36), 3) := by decide +kernel
theorem dX6_canBeCalled_70 : decode cX6_canBeCalled 70 = .ok (.iconst 1, 1) := by decide +kernel
theorem dX6_canBeCalled_71 : decode cX6_canBeCalled 71 = .ok (.ireturn, 1) := by decide +kernel
theorem dX6_hang_0 : decode cX6_hang 0 = .ok (.iload_n 0, 1) := by decide +kernel
theorem dX6_hang_1 : decode cX6_hang 1 = .ok (.ifCond .ne 5, 3) := by decide +kernel
theorem dX6_hang_4 : decode cX6_hang 4 = .ok (.iconst 0, 1) := by decide +kernel
theorem dX6_hang_5 : decode cX6_hang 5 = .ok (.ireturn, 1) := by decide +kernel
theorem dX6_hang_6 : decode cX6_hang 6 = .ok (.iload_n 0, 1) := by decide +kernel
theorem dX6_hang_7 : decode cX6_hang 7 = .ok (.ifCond .le 7, 3) := by decide +kernel
theorem dX6_hang_10 : decode cX6_hang 10 = .ok (.iconst 1, 1) := by decide +kernel
theorem dX6_hang_11 : decode cX6_hang 11 = .ok (.goto 4, 3) := by decide +kernel
theorem dX6_hang_14 : decode cX6_hang 14 = .ok (.iconst (-1), 1) := by decide +kernel
theorem dX6_hang_15 : decode cX6_hang 15 = .ok (.ireturn, 1) := by decide +kernel
theorem dX6_mostAlike_0 : decode cX6_mostAlike 0 = .ok (.iconst 0, 1) := by decide +kernel
theorem dX6_mostAlike_1 : decode cX6_mostAlike 1 = .ok (.istore_n 2, 1) := by decide +kernel
theorem dX6_mostAlike_2 : decode cX6_mostAlike 2 = .ok (.iconst 0, 1) := by decide +kernel
theorem dX6_mostAlike_3 : decode cX6_mostAlike 3 = .ok (.istore_n 3, 1) := by decide +kernel
theorem dX6_mostAlike_4 : decode cX6_mostAlike 4 = .ok (.iconst 0, 1) := by decide +kernel
theorem dX6_mostAlike_5 : decode cX6_mostAlike 5 = .ok (.istore 4, 2) := by decide +kernel
theorem dX6_mostAlike_7 : decode cX6_mostAlike 7 = .ok (.iconst 0, 1) := by decide +kernel
theorem dX6_mostAlike_8 : decode cX6_mostAlike 8 = .ok (.istore 5, 2) := by decide +kernel
theorem dX6_mostAlike_10 : decode cX6_mostAlike 10 = .ok (.iload 5, 2) := by decide +kernel
theorem dX6_mostAlike_12 : decode cX6_mostAlike 12 = .ok (.bipush 10, 2) := by decide +kernel
theorem dX6_mostAlike_14 : decode cX6_mostAlike 14 = .ok (.if_icmp .ge 77, 3) := by decide +kernel
theorem dX6_mostAlike_17 : decode cX6_mostAlike 17 = .ok (.aload_n 0, 1) := by decide +kernel
theorem dX6_mostAlike_18 : decode cX6_mostAlike 18 = .ok (.getfield 27, 3) := by decide +kernel
theorem dX6_mostAlike_21 : decode cX6_mostAlike 21 = .ok (.getfield 230, 3) := by decide +kernel
theorem dX6_mostAlike_24 : decode cX6_mostAlike 24 = .ok (.iload 5, 2) := by decide +kernel
theorem dX6_mostAlike_26 : decode cX6_mostAlike 26 = .ok (.ishr, 1) := by decide +kernel
theorem dX6_mostAlike_27 : decode cX6_mostAlike 27 = .ok (.iconst 1, 1) := by decide +kernel
theorem dX6_mostAlike_28 : decode cX6_mostAlike 28 = .ok (.iand, 1) := by decide +kernel
theorem dX6_mostAlike_29 : decode cX6_mostAlike 29 = .ok (.iconst 1, 1) := by decide +kernel
theorem dX6_mostAlike_30 : decode cX6_mostAlike 30 = .ok (.if_icmp .ne 55, 3) := by decide +kernel
theorem dX6_mostAlike_33 : decode cX6_mostAlike 33 = .ok (.iload_n 1, 1) := by decide +kernel
theorem dX6_mostAlike_34 : decode cX6_mostAlike 34 = .ok (.iload 5, 2) := by decide +kernel
theorem dX6_mostAlike_36 : decode cX6_mostAlike 36 = .ok (.iadd, 1) := by decide +kernel
theorem dX6_mostAlike_37 : decode cX6_mostAlike 37 = .ok (.invokestatic 227, 3) := by decide +kernel
theorem dX6_mostAlike_40 : decode cX6_mostAlike 40 = .ok (.istore 6, 2) := by decide +kernel
theorem dX6_mostAlike_42 : decode cX6_mostAlike 42 = .ok (.iload_n 2, 1) := by decide +kernel
theorem dX6_mostAlike_43 : decode cX6_mostAlike 43 = .ok (.iload 6, 2) := by decide +kernel
theorem dX6_mostAlike_45 : decode cX6_mostAlike 45 = .ok (.iconst 1, 1) := by decide +kernel
theorem dX6_mostAlike_46 : decode cX6_mostAlike 46 = .ok (.if_icmp .ne 7, 3) := by decide +kernel
theorem dX6_mostAlike_49 : decode cX6_mostAlike 49 = .ok (.iconst 1, 1) := by decide +kernel
theorem dX6_mostAlike_50 : decode cX6_mostAlike 50 = .ok (.goto 4, 3) := by decide +kernel
theorem dX6_mostAlike_53 : decode cX6_mostAlike 53 = .ok (.iconst 0, 1) := by decide +kernel
theorem dX6_mostAlike_54 : decode cX6_mostAlike 54 = .ok (.iadd, 1) := by decide +kernel
theorem dX6_mostAlike_55 : decode cX6_mostAlike 55 = .ok (.istore_n 2, 1) := by decide +kernel
theorem dX6_mostAlike_56 : decode cX6_mostAlike 56 = .ok (.iload_n 3, 1) := by decide +kernel
theorem dX6_mostAlike_57 : decode cX6_mostAlike 57 = .ok (.iload 6, 2) := by decide +kernel
theorem dX6_mostAlike_59 : decode cX6_mostAlike 59 = .ok (.iconst (-1), 1) := by decide +kernel
theorem dX6_mostAlike_60 : decode cX6_mostAlike 60 = .ok (.if_icmp .ne 7, 3) := by decide +kernel
theorem dX6_mostAlike_63 : decode cX6_mostAlike 63 = .ok (.iconst 1, 1) := by decide +kernel
theorem dX6_mostAlike_64 : decode cX6_mostAlike 64 = .ok (.goto 4, 3) := by decide +kernel
theorem dX6_mostAlike_67 : decode cX6_mostAlike 67 = .ok (.iconst 0, 1) := by decide +kernel
theorem dX6_mostAlike_68 : decode cX6_mostAlike 68 = .ok (.iadd, 1) := by decide +kernel
theorem dX6_mostAlike_69 : decode cX6_mostAlike 69 = .ok (.istore_n 3, 1) := by decide +kernel
theorem dX6_mostAlike_70 : decode cX6_mostAlike 70 = .ok (.iload 4, 2) := by decide +kernel
theorem dX6_mostAlike_72 : decode cX6_mostAlike 72 = .ok (.iload 6, 2) := by decide +kernel
theorem dX6_mostAlike_74 : decode cX6_mostAlike 74 = .ok (.ifCond .ne 7, 3) := by decide +kernel
theorem dX6_mostAlike_77 : decode cX6_mostAlike 77 = .ok (.iconst 1, 1) := by decide +kernel
theorem dX6_mostAlike_78 : decode cX6_mostAlike 78 = .ok (.goto 4, 3) := by decide +kernel
theorem dX6_mostAlike_81 : decode cX6_mostAlike 81 = .ok (.iconst 0, 1) := by decide +kernel
theorem dX6_mostAlike_82 : decode cX6_mostAlike 82 = .ok (.iadd, 1) := by decide +kernel
theorem dX6_mostAlike_83 : decode cX6_mostAlike 83 = .ok (.istore 4, 2) := by decide +kernel
theorem dX6_mostAlike_85 : decode cX6_mostAlike 85 = .ok (.iinc 5 1, 3) := by decide +kernel
theorem dX6_mostAlike_88 : decode cX6_mostAlike 88 = .ok (.goto (-78), 3) := by decide +kernel
theorem dX6_mostAlike_91 : decode cX6_mostAlike 91 = .ok (.iload 4, 2) := by decide +kernel
theorem dX6_mostAlike_93 : decode cX6_mostAlike 93 = .ok (.iload_n 2, 1) := by decide +kernel
theorem dX6_mostAlike_94 : decode cX6_mostAlike 94 = .ok (.iload_n 3, 1) := by decide +kernel
theorem dX6_mostAlike_95 : decode cX6_mostAlike 95 = .ok (.invokestatic 294, 3) := by decide +kernel
theorem dX6_mostAlike_98 : decode cX6_mostAlike 98 = .ok (.invokestatic 294, 3) := by decide +kernel
theorem dX6_mostAlike_101 : decode cX6_mostAlike 101 = .ok (.ireturn, 1) := by decide +kernel
theorem dX6_priceOf_0 : decode cX6_priceOf 0 = .ok (.iconst 0, 1) := by decide +kernel
theorem dX6_priceOf_1 : decode cX6_priceOf 1 = .ok (.istore_n 2, 1) := by decide +kernel
theorem dX6_priceOf_2 : decode cX6_priceOf 2 = .ok (.iconst 0, 1) := by decide +kernel
theorem dX6_priceOf_3 : decode cX6_priceOf 3 = .ok (.istore_n 3, 1) := by decide +kernel
theorem dX6_priceOf_4 : decode cX6_priceOf 4 = .ok (.iload_n 3, 1) := by decide +kernel
theorem dX6_priceOf_5 : decode cX6_priceOf 5 = .ok (.bipush 9, 2) := by decide +kernel
theorem dX6_priceOf_7 : decode cX6_priceOf 7 = .ok (.if_icmp .ge 34, 3) := by decide +kernel
theorem dX6_priceOf_10 : decode cX6_priceOf 10 = .ok (.iload_n 2, 1) := by decide +kernel
theorem dX6_priceOf_11 : decode cX6_priceOf 11 = .ok (.iload_n 1, 1) := by decide +kernel
theorem dX6_priceOf_12 : decode cX6_priceOf 12 = .ok (.iload_n 3, 1) := by decide +kernel
theorem dX6_priceOf_13 : decode cX6_priceOf 13 = .ok (.ishr, 1) := by decide +kernel
theorem dX6_priceOf_14 : decode cX6_priceOf 14 = .ok (.iconst 1, 1) := by decide +kernel
theorem dX6_priceOf_15 : decode cX6_priceOf 15 = .ok (.iand, 1) := by decide +kernel
theorem dX6_priceOf_16 : decode cX6_priceOf 16 = .ok (.iconst 1, 1) := by decide +kernel
theorem dX6_priceOf_17 : decode cX6_priceOf 17 = .ok (.if_icmp .ne 15, 3) := by decide +kernel
theorem dX6_priceOf_20 : decode cX6_priceOf 20 = .ok (.aload_n 0, 1) := by decide +kernel
theorem dX6_priceOf_21 : decode cX6_priceOf 21 = .ok (.getfield 27, 3) := by decide +kernel
theorem dX6_priceOf_24 : decode cX6_priceOf 24 = .ok (.getfield 86, 3) := by decide +kernel
theorem dX6_priceOf_27 : decode cX6_priceOf 27 = .ok (.iload_n 3, 1) := by decide +kernel
theorem dX6_priceOf_28 : decode cX6_priceOf 28 = .ok (.iaload, 1) := by decide +kernel
theorem dX6_priceOf_29 : decode cX6_priceOf 29 = .ok (.goto 4, 3) := by decide +kernel
theorem dX6_priceOf_32 : decode cX6_priceOf 32 = .ok (.iconst 0, 1) := by decide +kernel
theorem dX6_priceOf_33 : decode cX6_priceOf 33 = .ok (.iadd, 1) := by decide +kernel
theorem dX6_priceOf_34 : decode cX6_priceOf 34 = .ok (.istore_n 2, 1) := by decide +kernel
theorem dX6_priceOf_35 : decode cX6_priceOf 35 = .ok (.iinc 3 1, 3) := by decide +kernel
theorem dX6_priceOf_38 : decode cX6_priceOf 38 = .ok (.goto (-34), 3) := by decide +kernel
theorem dX6_priceOf_41 : decode cX6_priceOf 41 = .ok (.iload_n 2, 1) := by decide +kernel
theorem dX6_priceOf_42 : decode cX6_priceOf 42 = .ok (.ireturn, 1) := by decide +kernel
