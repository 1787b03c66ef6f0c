theorem dX4_init_0 : decode cX4_init 0 = .ok (.aload_n 0, 1) := by decide +kernel
theorem dX4_init_1 : decode cX4_init 1 = .ok (.invokespecial 3, 3) := by decide +kernel
theorem dX4_init_4 : decode cX4_init 4 = .ok (.aload_n 0, 1) := by decide +kernel
theorem dX4_init_5 : decode cX4_init 5 = .ok (.iconst 4, 1) := by decide +kernel
theorem dX4_init_6 : decode cX4_init 6 = .ok (.newarray .int, 2) := by decide +kernel
theorem dX4_init_8 : decode cX4_init 8 = .ok (.putfield 9, 3) := by decide +kernel
theorem dX4_init_11 : decode cX4_init 11 = .ok (.aload_n 0, 1) := by decide +kernel
theorem dX4_init_12 : decode cX4_init 12 = .ok (.bipush 9, 2) := by decide +kernel
theorem dX4_init_14 : decode cX4_init 14 = .ok (.newarray .int, 2) := by decide +kernel
theorem dX4_init_16 : decode cX4_init 16 = .ok (.putfield 15, 3) := by decide +kernel
theorem dX4_init_19 : decode cX4_init 19 = .ok (.aload_n 0, 1) := by decide +kernel
theorem dX4_init_20 : decode cX4_init 20 = .ok (.bipush 9, 2) := by decide +kernel
theorem dX4_init_22 : decode cX4_init 22 = .ok (.newarray .int, 2) := by decide +kernel
theorem dX4_init_24 : decode cX4_init 24 = .ok (.putfield 18, 3) := by decide +kernel
theorem dX4_init_27 : decode cX4_init 27 = .ok (.iconst 0, 1) := by decide +kernel
theorem dX4_init_28 : decode cX4_init 28 = .ok (.istore_n 1, 1) := by decide +kernel
theorem dX4_init_29 : decode cX4_init 29 = .ok (.iload_n 1, 1) := by decide +kernel
theorem dX4_init_30 : decode cX4_init 30 = .ok (.aload_n 0, 1) := by decide +kernel
theorem dX4_init_31 : decode cX4_init 31 = .ok (.getfield 15, 3) := by decide +kernel
theorem dX4_init_34 : decode cX4_init 34 = .ok (.arraylength, 1) := by decide +kernel
theorem dX4_init_35 : decode cX4_init 35 = .ok (.if_icmp .ge 16, 3) := by decide +kernel
theorem dX4_init_38 : decode cX4_init 38 = .ok (.aload_n 0, 1) := by decide +kernel
theorem dX4_init_39 : decode cX4_init 39 = .ok (.getfield 15, 3) := by decide +kernel
theorem dX4_init_42 : decode cX4_init 42 = .ok (.iload_n 1, 1) := by decide +kernel
theorem dX4_init_43 : decode cX4_init 43 = .ok (.iconst 2, 1) := by decide +kernel
theorem dX4_init_44 : decode cX4_init 44 = .ok (.iastore, 1) := by decide +kernel
theorem dX4_init_45 : decode cX4_init 45 = .ok (.iinc 1 1, 3) := by decide +kernel
theorem dX4_init_48 : decode cX4_init 48 = .ok (.goto (-19), 3) := by decide +kernel
theorem dX4_init_51 : decode cX4_init 51 = .ok (.aload_n 0, 1) := by decide +kernel
theorem dX4_init_52 : decode cX4_init 52 = .ok (.iconst 0, 1) := by decide +kernel
theorem dX4_init_53 : decode cX4_init 53 = .ok (.putfield 21, 3) := by decide +kernel
theorem dX4_init_56 : decode cX4_init 56 = .ok (.aload_n 0, 1) := by decide +kernel
theorem dX4_init_57 : decode cX4_init 57 = .ok (.iconst 0, 1) := by decide +kernel
theorem dX4_init_58 : decode cX4_init 58 = .ok (.putfield 25, 3) := by decide +kernel
theorem dX4_init_61 : decode cX4_init 61 = .ok (.aload_n 0, 1) := by decide +kernel
theorem dX4_init_62 : decode cX4_init 62 = .ok (.iconst 3, 1) := by decide +kernel
theorem dX4_init_63 : decode cX4_init 63 = .ok (.putfield 28, 3) := by decide +kernel
theorem dX4_init_66 : decode cX4_init 66 = .ok (.return_, 1) := by decide +kernel
theorem dX4_copyFrom_0 : decode cX4_copyFrom 0 = .ok (.aload_n 1, 1) := by decide +kernel
theorem dX4_copyFrom_1 : decode cX4_copyFrom 1 = .ok (.getfield 9, 3) := by decide +kernel
theorem dX4_copyFrom_4 : decode cX4_copyFrom 4 = .ok (.iconst 0, 1) := by decide +kernel
theorem dX4_copyFrom_5 : decode cX4_copyFrom 5 = .ok (.aload_n 0, 1) := by decide +kernel
theorem dX4_copyFrom_6 : decode cX4_copyFrom 6 = .ok (.getfield 9, 3) := by decide +kernel
theorem dX4_copyFrom_9 : decode cX4_copyFrom 9 = .ok (.iconst 0, 1) := by decide +kernel
theorem dX4_copyFrom_10 : decode cX4_copyFrom 10 = .ok (.iconst 4, 1) := by decide +kernel
theorem dX4_copyFrom_11 : decode cX4_copyFrom 11 = .ok (.invokestatic 31, 3) := by decide +kernel
theorem dX4_copyFrom_14 : decode cX4_copyFrom 14 = .ok (.aload_n 1, 1) := by decide +kernel
theorem dX4_copyFrom_15 : decode cX4_copyFrom 15 = .ok (.getfield 15, 3) := by decide +kernel
theorem dX4_copyFrom_18 : decode cX4_copyFrom 18 = .ok (.iconst 0, 1) := by decide +kernel
theorem dX4_copyFrom_19 : decode cX4_copyFrom 19 = .ok (.aload_n 0, 1) := by decide +kernel
theorem dX4_copyFrom_20 : decode cX4_copyFrom 20 = .ok (.getfield 15, 3) := by decide +kernel
theorem dX4_copyFrom_23 : decode cX4_copyFrom 23 = .ok (.iconst 0, 1) := by decide +kernel
theorem dX4_copyFrom_24 : decode cX4_copyFrom 24 = .ok (.bipush 9, 2) := by decide +kernel
theorem dX4_copyFrom_26 : decode cX4_copyFrom 26 = .ok (.invokestatic 31, 3) := by decide +kernel
theorem dX4_copyFrom_29 : decode cX4_copyFrom 29 = .ok (.aload_n 1, 1) := by decide +kernel
theorem dX4_copyFrom_30 : decode cX4_copyFrom 30 = .ok (.getfield 18, 3) := by decide +kernel
theorem dX4_copyFrom_33 : decode cX4_copyFrom 33 = .ok (.iconst 0, 1) := by decide +kernel
theorem dX4_copyFrom_34 : decode cX4_copyFrom 34 = .ok (.aload_n 0, 1) := by decide +kernel
theorem dX4_copyFrom_35 : decode cX4_copyFrom 35 = .ok (.getfield 18, 3) := by decide +kernel
theorem dX4_copyFrom_38 : decode cX4_copyFrom 38 = .ok (.iconst 0, 1) := by decide +kernel
theorem dX4_copyFrom_39 : decode cX4_copyFrom 39 = .ok (.bipush 9, 2) := by decide +kernel
theorem dX4_copyFrom_41 : decode cX4_copyFrom 41 = .ok (.invokestatic 31, 3) := by decide +kernel
theorem dX4_copyFrom_44 : decode cX4_copyFrom 44 = .ok (.aload_n 0, 1) := by decide +kernel
theorem dX4_copyFrom_45 : decode cX4_copyFrom 45 = .ok (.aload_n 1, 1) := by decide +kernel
theorem dX4_copyFrom_46 : decode cX4_copyFrom 46 = .ok (.getfield 21, 3) := by decide +kernel
theorem dX4_copyFrom_49 : decode cX4_copyFrom 49 = .ok (.putfield 21, 3) := by decide +kernel
theorem dX4_copyFrom_52 : decode cX4_copyFrom 52 = .ok (.aload_n 0, 1) := by decide +kernel
theorem dX4_copyFrom_53 : decode cX4_copyFrom 53 = .ok (.aload_n 1, 1) := by decide +kernel
theorem dX4_copyFrom_54 : decode cX4_copyFrom 54 = .ok (.getfield 25, 3) := by decide +kernel
theorem dX4_copyFrom_57 : decode cX4_copyFrom 57 = .ok (.putfield 25, 3) := by decide +kernel
theorem dX4_copyFrom_60 : decode cX4_copyFrom 60 = .ok (.aload_n 0, 1) := by decide +kernel
theorem dX4_copyFrom_61 : decode cX4_copyFrom 61 = .ok (.aload_n 1, 1) := by decide +kernel
theorem dX4_copyFrom_62 : decode cX4_copyFrom 62 = .ok (.getfield 28, 3) := by decide +kernel
theorem dX4_copyFrom_65 : decode cX4_copyFrom 65 = .ok (.putfield 28, 3) := by decide +kernel
theorem dX4_copyFrom_68 : decode cX4_copyFrom 68 = .ok (.return_, 1) := by decide +kernel
theorem dX4_tilt_0 : decode cX4_tilt 0 = .ok (.aload_n 0, 1) := by decide +kernel
theorem dX4_tilt_1 : decode cX4_tilt 1 = .ok (.getfield 9, 3) := by decide +kernel
theorem dX4_tilt_4 : decode cX4_tilt 4 = .ok (.iconst 0, 1) := by decide +kernel
theorem dX4_tilt_5 : decode cX4_tilt 5 = .ok (.iaload, 1) := by decide +kernel
theorem dX4_tilt_6 : decode cX4_tilt 6 = .ok (.aload_n 0, 1) := by decide +kernel
theorem dX4_tilt_7 : decode cX4_tilt 7 = .ok (.getfield 9, 3) := by decide +kernel
theorem dX4_tilt_10 : decode cX4_tilt 10 = .ok (.iconst 1, 1) := by decide +kernel
theorem dX4_tilt_11 : decode cX4_tilt 11 = .ok (.iaload, 1) := by decide +kernel
theorem dX4_tilt_12 : decode cX4_tilt 12 = .ok (.iadd, 1) := by decide +kernel
theorem dX4_tilt_13 : decode cX4_tilt 13 = .ok (.aload_n 0, 1) := by decide +kernel
theorem dX4_tilt_14 : decode cX4_tilt 14 = .ok (.getfield 9, 3) := by decide +kernel
theorem dX4_tilt_17 : decode cX4_tilt 17 = .ok (.iconst 2, 1) := by decide +kernel
theorem dX4_tilt_18 : decode cX4_tilt 18 = .ok (.iaload, 1) := by decide +kernel
theorem dX4_tilt_19 : decode cX4_tilt 19 = .ok (.isub, 1) := by decide +kernel
theorem dX4_tilt_20 : decode cX4_tilt 20 = .ok (.aload_n 0, 1) := by decide +kernel
theorem dX4_tilt_21 : decode cX4_tilt 21 = .ok (.getfield 9, 3) := by decide +kernel
theorem dX4_tilt_24 : decode cX4_tilt 24 = .ok (.iconst 3, 1) := by decide +kernel
theorem dX4_tilt_25 : decode cX4_tilt 25 = .ok (.iaload, 1) := by decide +kernel
theorem dX4_tilt_26 : decode cX4_tilt 26 = .ok (.isub, 1) := by decide +kernel
theorem dX4_tilt_27 : decode cX4_tilt 27 = .ok (.ireturn, 1) := by decide +kernel
theorem dX4_drawPot_0 : decode cX4_drawPot 0 = .ok (.aload_n 0, 1) := by decide +kernel
theorem dX4_drawPot_1 : decode cX4_drawPot 1 = .ok (.getfield 28, 3) := by decide +kernel
theorem dX4_drawPot_4 : decode cX4_drawPot 4 = .ok (.iconst 3, 1) := by decide +kernel
theorem dX4_drawPot_5 : decode cX4_drawPot 5 = .ok (.iand, 1) := by decide +kernel
theorem dX4_drawPot_6 : decode cX4_drawPot 6 = .ok (.istore_n 1, 1) := by decide +kernel
theorem dX4_drawPot_7 : decode cX4_drawPot 7 = .ok (.aload_n 0, 1) := by decide +kernel
theorem dX4_drawPot_8 : decode cX4_drawPot 8 = .ok (.aload_n 0, 1) := by decide +kernel
theorem dX4_drawPot_9 : decode cX4_drawPot 9 = .ok (.getfield 28, 3) := by decide +kernel
theorem dX4_drawPot_12 : decode cX4_drawPot 12 = .ok (.sipush 181, 3) := by decide +kernel
theorem dX4_drawPot_15 : decode cX4_drawPot 15 = .ok (.imul, 1) := by decide +kernel
theorem dX4_drawPot_16 : decode cX4_drawPot 16 = .ok (.bipush 101, 2) := by decide +kernel
theorem dX4_drawPot_18 : decode cX4_drawPot 18 = .ok (.iadd, 1) := by decide +kernel
theorem dX4_drawPot_19 : decode cX4_drawPot 19 = .ok (.sipush 30029, 3) := by decide +kernel
theorem dX4_drawPot_22 : decode cX4_drawPot 22 = .ok (.irem, 1) := by decide +kernel
theorem dX4_drawPot_23 : decode cX4_drawPot 23 = .ok (.putfield 28, 3) := by decide +kernel
theorem dX4_drawPot_26 : decode cX4_drawPot 26 = .ok (.iload_n 1, 1) := by decide +kernel
theorem dX4_drawPot_27 : decode cX4_drawPot 27 = .ok (.ireturn, 1) := by decide +kernel
theorem dX4_eat_0 : decode cX4_eat 0 = .ok (.aload_n 0, 1) := by decide +kernel
theorem dX4_eat_1 : decode cX4_eat 1 = .ok (.getfield 15, 3) := by decide +kernel
theorem dX4_eat_4 : decode cX4_eat 4 = .ok (.iload_n 1, 1) := by decide +kernel
theorem dX4_eat_5 : decode cX4_eat 5 = .ok (.iaload, 1) := by decide +kernel
theorem dX4_eat_6 : decode cX4_eat 6 = .ok (.istore 4, 2) := by decide +kernel
theorem dX4_eat_8 : decode cX4_eat 8 = .ok (.iload 4, 2) := by decide +kernel
theorem dX4_eat_10 : decode cX4_eat 10 = .ok (.iconst 2, 1) := by decide +kernel
theorem dX4_eat_11 : decode cX4_eat 11 = .ok (.if_icmp .eq 42, 3) := by decide +kernel
theorem dX4_eat_14 : decode cX4_eat 14 = .ok (.iload_n 3, 1) := by decide +kernel
theorem dX4_eat_15 : decode cX4_eat 15 = .ok (.ifCond .le 38, 3) := by decide +kernel
theorem dX4_eat_18 : decode cX4_eat 18 = .ok (.aload_n 0, 1) := by decide +kernel
theorem dX4_eat_19 : decode cX4_eat 19 = .ok (.getfield 9, 3) := by decide +kernel
theorem dX4_eat_22 : decode cX4_eat 22 = .ok (.iconst 2, 1) := by decide +kernel
theorem dX4_eat_23 : decode cX4_eat 23 = .ok (.iload 4, 2) := by decide +kernel
theorem dX4_eat_25 : decode cX4_eat 25 = .ok (.imul, 1) := by decide +kernel
theorem dX4_eat_26 : decode cX4_eat 26 = .ok (.iload_n 2, 1) := by decide +kernel
theorem dX4_eat_27 : decode cX4_eat 27 = .ok (.iadd, 1) := by decide +kernel
theorem dX4_eat_28 : decode cX4_eat 28 = .ok (.dup2, 1) := by decide +kernel
theorem dX4_eat_29 : decode cX4_eat 29 = .ok (.iaload, 1) := by decide +kernel
theorem dX4_eat_30 : decode cX4_eat 30 = .ok (.iload_n 3, 1) := by decide +kernel
theorem dX4_eat_31 : decode cX4_eat 31 = .ok (.isub, 1) := by decide +kernel
theorem dX4_eat_32 : decode cX4_eat 32 = .ok (.iastore, 1) := by decide +kernel
theorem dX4_eat_33 : decode cX4_eat 33 = .ok (.aload_n 0, 1) := by decide +kernel
theorem dX4_eat_34 : decode cX4_eat 34 = .ok (.getfield 18, 3) := by decide +kernel
theorem dX4_eat_37 : decode cX4_eat 37 = .ok (.iload_n 1, 1) := by decide +kernel
theorem dX4_eat_38 : decode cX4_eat 38 = .ok (.dup2, 1) := by decide +kernel
theorem dX4_eat_39 : decode cX4_eat 39 = .ok (.iaload, 1) := by decide +kernel
theorem dX4_eat_40 : decode cX4_eat 40 = .ok (.iload_n 3, 1) := by decide +kernel
theorem dX4_eat_41 : decode cX4_eat 41 = .ok (.iadd, 1) := by decide +kernel
theorem dX4_eat_42 : decode cX4_eat 42 = .ok (.iastore, 1) := by decide +kernel
theorem dX4_eat_43 : decode cX4_eat 43 = .ok (.aload_n 0, 1) := by decide +kernel
theorem dX4_eat_44 : decode cX4_eat 44 = .ok (.dup, 1) := by decide +kernel
theorem dX4_eat_45 : decode cX4_eat 45 = .ok (.getfield 21, 3) := by decide +kernel
theorem dX4_eat_48 : decode cX4_eat 48 = .ok (.iconst 1, 1) := by decide +kernel
theorem dX4_eat_49 : decode cX4_eat 49 = .ok (.iadd, 1) := by decide +kernel
theorem dX4_eat_50 : decode cX4_eat 50 = .ok (.putfield 21, 3) := by decide +kernel
theorem dX4_eat_53 : decode cX4_eat 53 = .ok (.return_, 1) := by decide +kernel
theorem dX4_giveBack_0 : decode cX4_giveBack 0 = .ok (.aload_n 0, 1) := by decide +kernel
theorem dX4_giveBack_1 : decode cX4_giveBack 1 = .ok (.getfield 15, 3) := by decide +kernel
theorem dX4_giveBack_4 : decode cX4_giveBack 4 = .ok (.iload_n 1, 1) := by decide +kernel
theorem dX4_giveBack_5 : decode cX4_giveBack 5 = .ok (.iaload, 1) := by decide +kernel
theorem dX4_giveBack_6 : decode cX4_giveBack 6 = .ok (.istore 4, 2) := by decide +kernel
theorem dX4_giveBack_8 : decode cX4_giveBack 8 = .ok (.iload 4, 2) := by decide +kernel
theorem dX4_giveBack_10 : decode cX4_giveBack 10 = .ok (.iconst 2, 1) := by decide +kernel
theorem dX4_giveBack_11 : decode cX4_giveBack 11 = .ok (.if_icmp .eq 42, 3) := by decide +kernel
theorem dX4_giveBack_14 : decode cX4_giveBack 14 = .ok (.iload_n 3, 1) := by decide +kernel
theorem dX4_giveBack_15 : decode cX4_giveBack 15 = .ok (.ifCond .le 38, 3) := by decide +kernel
theorem dX4_giveBack_18 : decode cX4_giveBack 18 = .ok (.aload_n 0, 1) := by decide +kernel
theorem dX4_giveBack_19 : decode cX4_giveBack 19 = .ok (.getfield 9, 3) := by decide +kernel
theorem dX4_giveBack_22 : decode cX4_giveBack 22 = .ok (.iconst 2, 1) := by decide +kernel
theorem dX4_giveBack_23 : decode cX4_giveBack 23 = .ok (.iload 4, 2) := by decide +kernel
theorem dX4_giveBack_25 : decode cX4_giveBack 25 = .ok (.imul, 1) := by decide +kernel
theorem dX4_giveBack_26 : decode cX4_giveBack 26 = .ok (.iload_n 2, 1) := by decide +kernel
theorem dX4_giveBack_27 : decode cX4_giveBack 27 = .ok (.iadd, 1) := by decide +kernel
theorem dX4_giveBack_28 : decode cX4_giveBack 28 = .ok (.dup2, 1) := by decide +kernel
theorem dX4_giveBack_29 : decode cX4_giveBack 29 = .ok (.iaload, 1) := by decide +kernel
theorem dX4_giveBack_30 : decode cX4_giveBack 30 = .ok (.iload_n 3, 1) := by decide +kernel
theorem dX4_giveBack_31 : decode cX4_giveBack 31 = .ok (.iadd, 1) := by decide +kernel
theorem dX4_giveBack_32 : decode cX4_giveBack 32 = .ok (.iastore, 1) := by decide +kernel
theorem dX4_giveBack_33 : decode cX4_giveBack 33 = .ok (.aload_n 0, 1) := by decide +kernel
theorem dX4_giveBack_34 : decode cX4_giveBack 34 = .ok (.getfield 18, 3) := by decide +kernel
theorem dX4_giveBack_37 : decode cX4_giveBack 37 = .ok (.iload_n 1, 1) := by decide +kernel
theorem dX4_giveBack_38 : decode cX4_giveBack 38 = .ok (.dup2, 1) := by decide +kernel
theorem dX4_giveBack_39 : decode cX4_giveBack 39 = .ok (.iaload, 1) := by decide +kernel
theorem dX4_giveBack_40 : decode cX4_giveBack 40 = .ok (.iload_n 3, 1) := by decide +kernel
theorem dX4_giveBack_41 : decode cX4_giveBack 41 = .ok (.isub, 1) := by decide +kernel
theorem dX4_giveBack_42 : decode cX4_giveBack 42 = .ok (.iastore, 1) := by decide +kernel
theorem dX4_giveBack_43 : decode cX4_giveBack 43 = .ok (.aload_n 0, 1) := by decide +kernel
theorem dX4_giveBack_44 : decode cX4_giveBack 44 = .ok (.dup, 1) := by decide +kernel
theorem dX4_giveBack_45 : decode cX4_giveBack 45 = .ok (.getfield 21, 3) := by decide +kernel
theorem dX4_giveBack_48 : decode cX4_giveBack 48 = .ok (.iconst 1, 1) := by decide +kernel
theorem dX4_giveBack_49 : decode cX4_giveBack 49 = .ok (.isub, 1) := by decide +kernel
theorem dX4_giveBack_50 : decode cX4_giveBack 50 = .ok (.putfield 21, 3) := by decide +kernel
theorem dX4_giveBack_53 : decode cX4_giveBack 53 = .ok (.return_, 1) := by decide +kernel
