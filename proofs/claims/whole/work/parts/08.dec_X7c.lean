theorem dX7_written_0 : decode cX7_written 0 = .ok (.iload_n 1, 1) := by decide +kernel
theorem dX7_written_1 : decode cX7_written 1 = .ok (.iconst (-1), 1) := by decide +kernel
theorem dX7_written_2 : decode cX7_written 2 = .ok (.if_icmp .ne 12, 3) := by decide +kernel
theorem dX7_written_5 : decode cX7_written 5 = .ok (.aload_n 0, 1) := by decide +kernel
theorem dX7_written_6 : decode cX7_written 6 = .ok (.getfield 7, 3) := by decide +kernel
theorem dX7_written_9 : decode cX7_written 9 = .ok (.sipush 132, 3) := by decide +kernel
theorem dX7_written_12 : decode cX7_written 12 = .ok (.iaload, 1) := by decide +kernel
theorem dX7_written_13 : decode cX7_written 13 = .ok (.ireturn, 1) := by decide +kernel
theorem dX7_written_14 : decode cX7_written 14 = .ok (.iload_n 1, 1) := by decide +kernel
theorem dX7_written_15 : decode cX7_written 15 = .ok (.iconst 0, 1) := by decide +kernel
theorem dX7_written_16 : decode cX7_written 16 = .ok (.aload_n 0, 1) := by decide +kernel
theorem dX7_written_17 : decode cX7_written 17 = .ok (.getfield 7, 3) := by decide +kernel
theorem dX7_written_20 : decode cX7_written 20 = .ok (.sipush 132, 3) := by decide +kernel
theorem dX7_written_23 : decode cX7_written 23 = .ok (.iaload, 1) := by decide +kernel
theorem dX7_written_24 : decode cX7_written 24 = .ok (.iconst 1, 1) := by decide +kernel
theorem dX7_written_25 : decode cX7_written 25 = .ok (.isub, 1) := by decide +kernel
theorem dX7_written_26 : decode cX7_written 26 = .ok (.invokestatic 110, 3) := by decide +kernel
theorem dX7_written_29 : decode cX7_written 29 = .ok (.ifCond .eq 29, 3) := by decide +kernel
theorem dX7_written_32 : decode cX7_written 32 = .ok (.iload_n 2, 1) := by decide +kernel
theorem dX7_written_33 : decode cX7_written 33 = .ok (.iconst 0, 1) := by decide +kernel
theorem dX7_written_34 : decode cX7_written 34 = .ok (.iconst 3, 1) := by decide +kernel
theorem dX7_written_35 : decode cX7_written 35 = .ok (.invokestatic 110, 3) := by decide +kernel
theorem dX7_written_38 : decode cX7_written 38 = .ok (.ifCond .eq 20, 3) := by decide +kernel
theorem dX7_written_41 : decode cX7_written 41 = .ok (.aload_n 0, 1) := by decide +kernel
theorem dX7_written_42 : decode cX7_written 42 = .ok (.getfield 7, 3) := by decide +kernel
theorem dX7_written_45 : decode cX7_written 45 = .ok (.sipush 133, 3) := by decide +kernel
theorem dX7_written_48 : decode cX7_written 48 = .ok (.iconst 4, 1) := by decide +kernel
theorem dX7_written_49 : decode cX7_written 49 = .ok (.iload_n 1, 1) := by decide +kernel
theorem dX7_written_50 : decode cX7_written 50 = .ok (.imul, 1) := by decide +kernel
theorem dX7_written_51 : decode cX7_written 51 = .ok (.iadd, 1) := by decide +kernel
theorem dX7_written_52 : decode cX7_written 52 = .ok (.iload_n 2, 1) := by decide +kernel
theorem dX7_written_53 : decode cX7_written 53 = .ok (.iadd, 1) := by decide +kernel
theorem dX7_written_54 : decode cX7_written 54 = .ok (.iaload, 1) := by decide +kernel
theorem dX7_written_55 : decode cX7_written 55 = .ok (.goto 5, 3) := by decide +kernel
theorem dX7_written_58 : decode cX7_written 58 = .ok (.bipush (-2), 2) := by decide +kernel
theorem dX7_written_60 : decode cX7_written 60 = .ok (.ireturn, 1) := by decide +kernel
theorem dX7_dent_0 : decode cX7_dent 0 = .ok (.iload_n 1, 1) := by decide +kernel
theorem dX7_dent_1 : decode cX7_dent 1 = .ok (.iconst (-1), 1) := by decide +kernel
theorem dX7_dent_2 : decode cX7_dent 2 = .ok (.if_icmp .ne 12, 3) := by decide +kernel
theorem dX7_dent_5 : decode cX7_dent 5 = .ok (.aload_n 0, 1) := by decide +kernel
theorem dX7_dent_6 : decode cX7_dent 6 = .ok (.getfield 7, 3) := by decide +kernel
theorem dX7_dent_9 : decode cX7_dent 9 = .ok (.sipush 373, 3) := by decide +kernel
theorem dX7_dent_12 : decode cX7_dent 12 = .ok (.iaload, 1) := by decide +kernel
theorem dX7_dent_13 : decode cX7_dent 13 = .ok (.ireturn, 1) := by decide +kernel
theorem dX7_dent_14 : decode cX7_dent 14 = .ok (.iload_n 1, 1) := by decide +kernel
theorem dX7_dent_15 : decode cX7_dent 15 = .ok (.iconst 0, 1) := by decide +kernel
theorem dX7_dent_16 : decode cX7_dent 16 = .ok (.aload_n 0, 1) := by decide +kernel
theorem dX7_dent_17 : decode cX7_dent 17 = .ok (.getfield 7, 3) := by decide +kernel
theorem dX7_dent_20 : decode cX7_dent 20 = .ok (.sipush 373, 3) := by decide +kernel
theorem dX7_dent_23 : decode cX7_dent 23 = .ok (.iaload, 1) := by decide +kernel
theorem dX7_dent_24 : decode cX7_dent 24 = .ok (.iconst 1, 1) := by decide +kernel
theorem dX7_dent_25 : decode cX7_dent 25 = .ok (.isub, 1) := by decide +kernel
theorem dX7_dent_26 : decode cX7_dent 26 = .ok (.invokestatic 110, 3) := by decide +kernel
theorem dX7_dent_29 : decode cX7_dent 29 = .ok (.ifCond .eq 29, 3) := by decide +kernel
theorem dX7_dent_32 : decode cX7_dent 32 = .ok (.iload_n 2, 1) := by decide +kernel
theorem dX7_dent_33 : decode cX7_dent 33 = .ok (.iconst 0, 1) := by decide +kernel
theorem dX7_dent_34 : decode cX7_dent 34 = .ok (.iconst 2, 1) := by decide +kernel
theorem dX7_dent_35 : decode cX7_dent 35 = .ok (.invokestatic 110, 3) := by decide +kernel
theorem dX7_dent_38 : decode cX7_dent 38 = .ok (.ifCond .eq 20, 3) := by decide +kernel
theorem dX7_dent_41 : decode cX7_dent 41 = .ok (.aload_n 0, 1) := by decide +kernel
theorem dX7_dent_42 : decode cX7_dent 42 = .ok (.getfield 7, 3) := by decide +kernel
theorem dX7_dent_45 : decode cX7_dent 45 = .ok (.sipush 374, 3) := by decide +kernel
theorem dX7_dent_48 : decode cX7_dent 48 = .ok (.iconst 3, 1) := by decide +kernel
theorem dX7_dent_49 : decode cX7_dent 49 = .ok (.iload_n 1, 1) := by decide +kernel
theorem dX7_dent_50 : decode cX7_dent 50 = .ok (.imul, 1) := by decide +kernel
theorem dX7_dent_51 : decode cX7_dent 51 = .ok (.iadd, 1) := by decide +kernel
theorem dX7_dent_52 : decode cX7_dent 52 = .ok (.iload_n 2, 1) := by decide +kernel
theorem dX7_dent_53 : decode cX7_dent 53 = .ok (.iadd, 1) := by decide +kernel
theorem dX7_dent_54 : decode cX7_dent 54 = .ok (.iaload, 1) := by decide +kernel
theorem dX7_dent_55 : decode cX7_dent 55 = .ok (.goto 6, 3) := by decide +kernel
theorem dX7_dent_58 : decode cX7_dent 58 = .ok (.sipush (-9999), 3) := by decide +kernel
theorem dX7_dent_61 : decode cX7_dent 61 = .ok (.ireturn, 1) := by decide +kernel
theorem dX7_rows_0 : decode cX7_rows 0 = .ok (.iconst 1, 1) := by decide +kernel
theorem dX7_rows_1 : decode cX7_rows 1 = .ok (.istore_n 1, 1) := by decide +kernel
theorem dX7_rows_2 : decode cX7_rows 2 = .ok (.iconst 2, 1) := by decide +kernel
theorem dX7_rows_3 : decode cX7_rows 3 = .ok (.istore_n 2, 1) := by decide +kernel
theorem dX7_rows_4 : decode cX7_rows 4 = .ok (.iload_n 2, 1) := by decide +kernel
theorem dX7_rows_5 : decode cX7_rows 5 = .ok (.iload_n 0, 1) := by decide +kernel
theorem dX7_rows_6 : decode cX7_rows 6 = .ok (.if_icmp .gt 13, 3) := by decide +kernel
theorem dX7_rows_9 : decode cX7_rows 9 = .ok (.iload_n 1, 1) := by decide +kernel
theorem dX7_rows_10 : decode cX7_rows 10 = .ok (.iload_n 2, 1) := by decide +kernel
theorem dX7_rows_11 : decode cX7_rows 11 = .ok (.imul, 1) := by decide +kernel
theorem dX7_rows_12 : decode cX7_rows 12 = .ok (.istore_n 1, 1) := by decide +kernel
theorem dX7_rows_13 : decode cX7_rows 13 = .ok (.iinc 2 1, 3) := by decide +kernel
theorem dX7_rows_16 : decode cX7_rows 16 = .ok (.goto (-12), 3) := by decide +kernel
theorem dX7_rows_19 : decode cX7_rows 19 = .ok (.iload_n 1, 1) := by decide +kernel
theorem dX7_rows_20 : decode cX7_rows 20 = .ok (.ireturn, 1) := by decide +kernel
theorem dX7_laysOrder_0 : decode cX7_laysOrder 0 = .ok (.iload_n 2, 1) := by decide +kernel
theorem dX7_laysOrder_1 : decode cX7_laysOrder 1 = .ok (.istore_n 3, 1) := by decide +kernel
theorem dX7_laysOrder_2 : decode cX7_laysOrder 2 = .ok (.iconst 0, 1) := by decide +kernel
theorem dX7_laysOrder_3 : decode cX7_laysOrder 3 = .ok (.istore 4, 2) := by decide +kernel
theorem dX7_laysOrder_5 : decode cX7_laysOrder 5 = .ok (.iconst 0, 1) := by decide +kernel
theorem dX7_laysOrder_6 : decode cX7_laysOrder 6 = .ok (.istore 5, 2) := by decide +kernel
theorem dX7_laysOrder_8 : decode cX7_laysOrder 8 = .ok (.iload 5, 2) := by decide +kernel
theorem dX7_laysOrder_10 : decode cX7_laysOrder 10 = .ok (.iload_n 1, 1) := by decide +kernel
theorem dX7_laysOrder_11 : decode cX7_laysOrder 11 = .ok (.if_icmp .ge 103, 3) := by decide +kernel
theorem dX7_laysOrder_14 : decode cX7_laysOrder 14 = .ok (.iload_n 3, 1) := by decide +kernel
theorem dX7_laysOrder_15 : decode cX7_laysOrder 15 = .ok (.iload_n 1, 1) := by decide +kernel
theorem dX7_laysOrder_16 : decode cX7_laysOrder 16 = .ok (.iconst 1, 1) := by decide +kernel
theorem dX7_laysOrder_17 : decode cX7_laysOrder 17 = .ok (.isub, 1) := by decide +kernel
theorem dX7_laysOrder_18 : decode cX7_laysOrder 18 = .ok (.iload 5, 2) := by decide +kernel
theorem dX7_laysOrder_20 : decode cX7_laysOrder 20 = .ok (.isub, 1) := by decide +kernel
theorem dX7_laysOrder_21 : decode cX7_laysOrder 21 = .ok (.invokestatic 370, 3) := by decide +kernel
theorem dX7_laysOrder_24 : decode cX7_laysOrder 24 = .ok (.idiv, 1) := by decide +kernel
theorem dX7_laysOrder_25 : decode cX7_laysOrder 25 = .ok (.istore 6, 2) := by decide +kernel
theorem dX7_laysOrder_27 : decode cX7_laysOrder 27 = .ok (.iload_n 3, 1) := by decide +kernel
theorem dX7_laysOrder_28 : decode cX7_laysOrder 28 = .ok (.iload_n 1, 1) := by decide +kernel
theorem dX7_laysOrder_29 : decode cX7_laysOrder 29 = .ok (.iconst 1, 1) := by decide +kernel
theorem dX7_laysOrder_30 : decode cX7_laysOrder 30 = .ok (.isub, 1) := by decide +kernel
theorem dX7_laysOrder_31 : decode cX7_laysOrder 31 = .ok (.iload 5, 2) := by decide +kernel
theorem dX7_laysOrder_33 : decode cX7_laysOrder 33 = .ok (.isub, 1) := by decide +kernel
theorem dX7_laysOrder_34 : decode cX7_laysOrder 34 = .ok (.invokestatic 370, 3) := by decide +kernel
theorem dX7_laysOrder_37 : decode cX7_laysOrder 37 = .ok (.irem, 1) := by decide +kernel
theorem dX7_laysOrder_38 : decode cX7_laysOrder 38 = .ok (.istore_n 3, 1) := by decide +kernel
theorem dX7_laysOrder_39 : decode cX7_laysOrder 39 = .ok (.iconst 0, 1) := by decide +kernel
theorem dX7_laysOrder_40 : decode cX7_laysOrder 40 = .ok (.istore 7, 2) := by decide +kernel
theorem dX7_laysOrder_42 : decode cX7_laysOrder 42 = .ok (.iload 4, 2) := by decide +kernel
theorem dX7_laysOrder_44 : decode cX7_laysOrder 44 = .ok (.iload 7, 2) := by decide +kernel
theorem dX7_laysOrder_46 : decode cX7_laysOrder 46 = .ok (.ishr, 1) := by decide +kernel
theorem dX7_laysOrder_47 : decode cX7_laysOrder 47 = .ok (.iconst 1, 1) := by decide +kernel
theorem dX7_laysOrder_48 : decode cX7_laysOrder 48 = .ok (.iand, 1) := by decide +kernel
theorem dX7_laysOrder_49 : decode cX7_laysOrder 49 = .ok (.iconst 1, 1) := by decide +kernel
theorem dX7_laysOrder_50 : decode cX7_laysOrder 50 = .ok (.if_icmp .eq 8, 3) := by decide +kernel
theorem dX7_laysOrder_53 : decode cX7_laysOrder 53 = .ok (.iload 6, 2) := by decide +kernel
theorem dX7_laysOrder_55 : decode cX7_laysOrder 55 = .ok (.ifCond .le 30, 3) := by decide +kernel
theorem dX7_laysOrder_58 : decode cX7_laysOrder 58 = .ok (.iload 6, 2) := by decide +kernel
theorem dX7_laysOrder_60 : decode cX7_laysOrder 60 = .ok (.iload 4, 2) := by decide +kernel
theorem dX7_laysOrder_62 : decode cX7_laysOrder 62 = .ok (.iload 7, 2) := by decide +kernel
theorem dX7_laysOrder_64 : decode cX7_laysOrder 64 = .ok (.ishr, 1) := by decide +kernel
theorem dX7_laysOrder_65 : decode cX7_laysOrder 65 = .ok (.iconst 1, 1) := by decide +kernel
theorem dX7_laysOrder_66 : decode cX7_laysOrder 66 = .ok (.iand, 1) := by decide +kernel
theorem dX7_laysOrder_67 : decode cX7_laysOrder 67 = .ok (.iconst 1, 1) := by decide +kernel
theorem dX7_laysOrder_68 : decode cX7_laysOrder 68 = .ok (.if_icmp .ne 7, 3) := by decide +kernel
theorem dX7_laysOrder_71 : decode cX7_laysOrder 71 = .ok (.iconst 0, 1) := by decide +kernel
theorem dX7_laysOrder_72 : decode cX7_laysOrder 72 = .ok (.goto 4, 3) := by decide +kernel
theorem dX7_laysOrder_75 : decode cX7_laysOrder 75 = .ok (.iconst 1, 1) := by decide +kernel
theorem dX7_laysOrder_76 : decode cX7_laysOrder 76 = .ok (.isub, 1) := by decide +kernel
theorem dX7_laysOrder_77 : decode cX7_laysOrder 77 = .ok (.istore 6, 2) := by decide +kernel
theorem dX7_laysOrder_79 : decode cX7_laysOrder 79 = .ok (.iinc 7 1, 3) := by decide +kernel
theorem dX7_laysOrder_82 : decode cX7_laysOrder 82 = .ok (.goto (-40), 3) := by decide +kernel
theorem dX7_laysOrder_85 : decode cX7_laysOrder 85 = .ok (.iload 4, 2) := by decide +kernel
theorem dX7_laysOrder_87 : decode cX7_laysOrder 87 = .ok (.iconst 1, 1) := by decide +kernel
theorem dX7_laysOrder_88 : decode cX7_laysOrder 88 = .ok (.iload 7, 2) := by decide +kernel
theorem dX7_laysOrder_90 : decode cX7_laysOrder 90 = .ok (.ishl, 1) := by decide +kernel
theorem dX7_laysOrder_91 : decode cX7_laysOrder 91 = .ok (.ior, 1) := by decide +kernel
theorem dX7_laysOrder_92 : decode cX7_laysOrder 92 = .ok (.istore 4, 2) := by decide +kernel
theorem dX7_laysOrder_94 : decode cX7_laysOrder 94 = .ok (.aload_n 0, 1) := by decide +kernel
theorem dX7_laysOrder_95 : decode cX7_laysOrder 95 = .ok (.getfield 94, 3) := by decide +kernel
theorem dX7_laysOrder_98 : decode cX7_laysOrder 98 = .ok (.iload 5, 2) := by decide +kernel
theorem dX7_laysOrder_100 : decode cX7_laysOrder 100 = .ok (.aload_n 0, 1) := by decide +kernel
theorem dX7_laysOrder_101 : decode cX7_laysOrder 101 = .ok (.getfield 91, 3) := by decide +kernel
theorem dX7_laysOrder_104 : decode cX7_laysOrder 104 = .ok (.iload 7, 2) := by decide +kernel
theorem dX7_laysOrder_106 : decode cX7_laysOrder 106 = .ok (.iaload, 1) := by decide +kernel
theorem dX7_laysOrder_107 : decode cX7_laysOrder 107 = .ok (.iastore, 1) := by decide +kernel
theorem dX7_laysOrder_108 : decode cX7_laysOrder 108 = .ok (.iinc 5 1, 3) := by decide +kernel
theorem dX7_laysOrder_111 : decode cX7_laysOrder 111 = .ok (.goto (-103), 3) := by decide +kernel
theorem dX7_laysOrder_114 : decode cX7_laysOrder 114 = .ok (.return_, 1) := by decide +kernel
theorem dX7_size_0 : decode cX7_size 0 = .ok (.iload_n 0, 1) := by decide +kernel
theorem dX7_size_1 : decode cX7_size 1 = .ok (.ifCond .ge 8, 3) := by decide +kernel
theorem dX7_size_4 : decode cX7_size 4 = .ok (.iload_n 0, 1) := by decide +kernel
theorem dX7_size_5 : decode cX7_size 5 = .ok (.ineg, 1) := by decide +kernel
theorem dX7_size_6 : decode cX7_size 6 = .ok (.goto 4, 3) := by decide +kernel
theorem dX7_size_9 : decode cX7_size 9 = .ok (.iload_n 0, 1) := by decide +kernel
theorem dX7_size_10 : decode cX7_size 10 = .ok (.ireturn, 1) := by decide +kernel
theorem dX7_called_0 : decode cX7_called 0 = .ok (.iload_n 1, 1) := by decide +kernel
theorem dX7_called_1 : decode cX7_called 1 = .ok (.iconst 1, 1) := by decide +kernel
theorem dX7_called_2 : decode cX7_called 2 = .ok (.iconst 1, 1) := by decide +kernel
theorem dX7_called_3 : decode cX7_called 3 = .ok (.aload_n 0, 1) := by decide +kernel
theorem dX7_called_4 : decode cX7_called 4 = .ok (.getfield 7, 3) := by decide +kernel
theorem dX7_called_7 : decode cX7_called 7 = .ok (.iconst 0, 1) := by decide +kernel
theorem dX7_called_8 : decode cX7_called 8 = .ok (.iaload, 1) := by decide +kernel
theorem dX7_called_9 : decode cX7_called 9 = .ok (.ishl, 1) := by decide +kernel
theorem dX7_called_10 : decode cX7_called 10 = .ok (.iconst 1, 1) := by decide +kernel
theorem dX7_called_11 : decode cX7_called 11 = .ok (.isub, 1) := by decide +kernel
theorem dX7_called_12 : decode cX7_called 12 = .ok (.invokestatic 110, 3) := by decide +kernel
theorem dX7_called_15 : decode cX7_called 15 = .ok (.ifCond .eq 15, 3) := by decide +kernel
theorem dX7_called_18 : decode cX7_called 18 = .ok (.iload_n 2, 1) := by decide +kernel
theorem dX7_called_19 : decode cX7_called 19 = .ok (.invokestatic 114, 3) := by decide +kernel
theorem dX7_called_22 : decode cX7_called 22 = .ok (.ifCond .eq 8, 3) := by decide +kernel
theorem dX7_called_25 : decode cX7_called 25 = .ok (.iload_n 3, 1) := by decide +kernel
theorem dX7_called_26 : decode cX7_called 26 = .ok (.iconst (-1), 1) := by decide +kernel
theorem dX7_called_27 : decode cX7_called 27 = .ok (.if_icmp .ge 7, 3) := by decide +kernel
theorem dX7_called_30 : decode cX7_called 30 = .ok (.sipush (-9999), 3) := by decide +kernel
theorem dX7_called_33 : decode cX7_called 33 = .ok (.ireturn, 1) := by decide +kernel
theorem dX7_called_34 : decode cX7_called 34 = .ok (.iconst 0, 1) := by decide +kernel
theorem dX7_called_35 : decode cX7_called 35 = .ok (.istore 4, 2) := by decide +kernel
theorem dX7_called_37 : decode cX7_called 37 = .ok (.iconst 0, 1) := by decide +kernel
theorem dX7_called_38 : decode cX7_called 38 = .ok (.istore 5, 2) := by decide +kernel
theorem dX7_called_40 : decode cX7_called 40 = .ok (.iload 5, 2) := by decide +kernel
theorem dX7_called_42 : decode cX7_called 42 = .ok (.aload_n 0, 1) := by decide +kernel
theorem dX7_called_43 : decode cX7_called 43 = .ok (.getfield 7, 3) := by decide +kernel
theorem dX7_called_46 : decode cX7_called 46 = .ok (.iconst 0, 1) := by decide +kernel
theorem dX7_called_47 : decode cX7_called 47 = .ok (.iaload, 1) := by decide +kernel
theorem dX7_called_48 : decode cX7_called 48 = .ok (.if_icmp .ge 56, 3) := by decide +kernel
theorem dX7_called_51 : decode cX7_called 51 = .ok (.iload_n 1, 1) := by decide +kernel
theorem dX7_called_52 : decode cX7_called 52 = .ok (.iload 5, 2) := by decide +kernel
theorem dX7_called_54 : decode cX7_called 54 = .ok (.ishr, 1) := by decide +kernel
theorem dX7_called_55 : decode cX7_called 55 = .ok (.iconst 1, 1) := by decide +kernel
theorem dX7_called_56 : decode cX7_called 56 = .ok (.iand, 1) := by decide +kernel
theorem dX7_called_57 : decode cX7_called 57 = .ok (.iconst 1, 1) := by decide +kernel
theorem dX7_called_58 : decode cX7_called 58 = .ok (.if_icmp .ne 40, 3) := by decide +kernel
theorem dX7_called_61 : decode cX7_called 61 = .ok (.iload 4, 2) := by decide +kernel
theorem dX7_called_63 : decode cX7_called 63 = .ok (.bipush 6, 2) := by decide +kernel
theorem dX7_called_65 : decode cX7_called 65 = .ok (.if_icmp .eq 17, 3) := by decide +kernel
theorem dX7_called_68 : decode cX7_called 68 = .ok (.aload_n 0, 1) := by decide +kernel
theorem dX7_called_69 : decode cX7_called 69 = .ok (.getfield 7, 3) := by decide +kernel
theorem dX7_called_72 : decode cX7_called 72 = .ok (.bipush 114, 2) := by decide +kernel
theorem dX7_called_74 : decode cX7_called 74 = .ok (.iload 5, 2) := by decide +kernel
theorem dX7_called_76 : decode cX7_called 76 = .ok (.iadd, 1) := by decide +kernel
theorem dX7_called_77 : decode cX7_called 77 = .ok (.iaload, 1) := by decide +kernel
theorem dX7_called_78 : decode cX7_called 78 = .ok (.iconst 2, 1) := by decide +kernel
theorem dX7_called_79 : decode cX7_called 79 = .ok (.if_icmp .ne 7, 3) := by decide +kernel
theorem dX7_called_82 : decode cX7_called 82 = .ok (.sipush (-9999), 3) := by decide +kernel
theorem dX7_called_85 : decode cX7_called 85 = .ok (.ireturn, 1) := by decide +kernel
theorem dX7_called_86 : decode cX7_called 86 = .ok (.aload_n 0, 1) := by decide +kernel
theorem dX7_called_87 : decode cX7_called 87 = .ok (.getfield 91, 3) := by decide +kernel
theorem dX7_called_90 : decode cX7_called 90 = .ok (.iload 4, 2) := by decide +kernel
theorem dX7_called_92 : decode cX7_called 92 = .ok (.iload 5, 2) := by decide +kernel
theorem dX7_called_94 : decode cX7_called 94 = .ok (.iastore, 1) := by decide +kernel
theorem dX7_called_95 : decode cX7_called 95 = .ok (.iinc 4 1, 3) := by decide +kernel
theorem dX7_called_98 : decode cX7_called 98 = .ok (.iinc 5 1, 3) := by decide +kernel
theorem dX7_called_101 : decode cX7_called 101 = .ok (.goto (-61), 3) := by decide +kernel
theorem dX7_called_104 : decode cX7_called 104 = .ok (.iload_n 3, 1) := by decide +kernel
theorem dX7_called_105 : decode cX7_called 105 = .ok (.iload 4, 2) := by decide +kernel
theorem dX7_called_107 : decode cX7_called 107 = .ok (.if_icmp .lt 7, 3) := by decide +kernel
theorem dX7_called_110 : decode cX7_called 110 = .ok (.sipush (-9999), 3) := by decide +kernel
theorem dX7_called_113 : decode cX7_called 113 = .ok (.ireturn, 1) := by decide +kernel
theorem dX7_called_114 : decode cX7_called 114 = .ok (.iconst 0, 1) := by decide +kernel
theorem dX7_called_115 : decode cX7_called 115 = .ok (.istore 5, 2) := by decide +kernel
theorem dX7_called_117 : decode cX7_called 117 = .ok (.iconst 0, 1) := by decide +kernel
theorem dX7_called_118 : decode cX7_called 118 = .ok (.istore 6, 2) := by decide +kernel
theorem dX7_called_120 : decode cX7_called 120 = .ok (.iconst 0, 1) := by decide +kernel
theorem dX7_called_121 : decode cX7_called 121 = .ok (.istore 7, 2) := by decide +kernel
theorem dX7_called_123 : decode cX7_called 123 = .ok (.iload 7, 2) := by decide +kernel
theorem dX7_called_125 : decode cX7_called 125 = .ok (.iload 4, 2) := by decide +kernel
theorem dX7_called_127 : decode cX7_called 127 = .ok (.invokestatic 370, 3) := by decide +kernel
theorem dX7_called_130 : decode cX7_called 130 = .ok (.if_icmp .ge 112, 3) := by decide +kernel
theorem dX7_called_133 : decode cX7_called 133 = .ok (.aload_n 0, 1) := by decide +kernel
theorem dX7_called_134 : decode cX7_called 134 = .ok (.iload 4, 2) := by decide +kernel
theorem dX7_called_136 : decode cX7_called 136 = .ok (.iload 7, 2) := by decide +kernel
theorem dX7_called_138 : decode cX7_called 138 = .ok (.invokevirtual 373, 3) := by decide +kernel
theorem dX7_called_141 : decode cX7_called 141 = .ok (.aload_n 0, 1) := by decide +kernel
theorem dX7_called_142 : decode cX7_called 142 = .ok (.invokevirtual 349, 3) := by decide +kernel
theorem dX7_called_145 : decode cX7_called 145 = .ok (.iconst 0, 1) := by decide +kernel
theorem dX7_called_146 : decode cX7_called 146 = .ok (.istore 8, 2) := by decide +kernel
theorem dX7_called_148 : decode cX7_called 148 = .ok (.iload 8, 2) := by decide +kernel
theorem dX7_called_150 : decode cX7_called 150 = .ok (.iload 4, 2) := by decide +kernel
theorem dX7_called_152 : decode cX7_called 152 = .ok (.if_icmp .ge 23, 3) := by decide +kernel
theorem dX7_called_155 : decode cX7_called 155 = .ok (.aload_n 0, 1) := by decide +kernel
theorem dX7_called_156 : decode cX7_called 156 = .ok (.aload_n 0, 1) := by decide +kernel
theorem dX7_called_157 : decode cX7_called 157 = .ok (.getfield 94, 3) := by decide +kernel
theorem dX7_called_160 : decode cX7_called 160 = .ok (.iload 8, 2) := by decide +kernel
theorem dX7_called_162 : decode cX7_called 162 = .ok (.iaload, 1) := by decide +kernel
theorem dX7_called_163 : decode cX7_called 163 = .ok (.iload_n 2, 1) := by decide +kernel
theorem dX7_called_164 : decode cX7_called 164 = .ok (.invokevirtual 376, 3) := by decide +kernel
theorem dX7_called_167 : decode cX7_called 167 = .ok (.istore 9, 2) := by decide +kernel
theorem dX7_called_169 : decode cX7_called 169 = .ok (.iinc 8 1, 3) := by decide +kernel
theorem dX7_called_172 : decode cX7_called 172 = .ok (.goto (-24), 3) := by decide +kernel
theorem dX7_called_175 : decode cX7_called 175 = .ok (.aload_n 0, 1) := by decide +kernel
theorem dX7_called_176 : decode cX7_called 176 = .ok (.invokevirtual 340, 3) := by decide +kernel
theorem dX7_called_179 : decode cX7_called 179 = .ok (.istore 8, 2) := by decide +kernel
theorem dX7_called_181 : decode cX7_called 181 = .ok (.iload 5, 2) := by decide +kernel
theorem dX7_called_183 : decode cX7_called 183 = .ok (.ifCond .eq 16, 3) := by decide +kernel
theorem dX7_called_186 : decode cX7_called 186 = .ok (.iload 8, 2) := by decide +kernel
theorem dX7_called_188 : decode cX7_called 188 = .ok (.invokestatic 379, 3) := by decide +kernel
theorem dX7_called_191 : decode cX7_called 191 = .ok (.iload 6, 2) := by decide +kernel
theorem dX7_called_193 : decode cX7_called 193 = .ok (.invokestatic 379, 3) := by decide +kernel
theorem dX7_called_196 : decode cX7_called 196 = .ok (.if_icmp .ge 40, 3) := by decide +kernel
theorem dX7_called_199 : decode cX7_called 199 = .ok (.iconst 1, 1) := by decide +kernel
theorem dX7_called_200 : decode cX7_called 200 = .ok (.istore 5, 2) := by decide +kernel
theorem dX7_called_202 : decode cX7_called 202 = .ok (.iload 8, 2) := by decide +kernel
theorem dX7_called_204 : decode cX7_called 204 = .ok (.istore 6, 2) := by decide +kernel
theorem dX7_called_206 : decode cX7_called 206 = .ok (.iconst 0, 1) := by decide +kernel
theorem dX7_called_207 : decode cX7_called 207 = .ok (.istore 9, 2) := by decide +kernel
theorem dX7_called_209 : decode cX7_called 209 = .ok (.iload 9, 2) := by decide +kernel
theorem dX7_called_211 : decode cX7_called 211 = .ok (.iload 4, 2) := by decide +kernel
theorem dX7_called_213 : decode cX7_called 213 = .ok (.if_icmp .ge 23, 3) := by decide +kernel
theorem dX7_called_216 : decode cX7_called 216 = .ok (.aload_n 0, 1) := by decide +kernel
theorem dX7_called_217 : decode cX7_called 217 = .ok (.getfield 97, 3) := by decide +kernel
theorem dX7_called_220 : decode cX7_called 220 = .ok (.iload 9, 2) := by decide +kernel
theorem dX7_called_222 : decode cX7_called 222 = .ok (.aload_n 0, 1) := by decide +kernel
theorem dX7_called_223 : decode cX7_called 223 = .ok (.getfield 94, 3) := by decide +kernel
theorem dX7_called_226 : decode cX7_called 226 = .ok (.iload 9, 2) := by decide +kernel
theorem dX7_called_228 : decode cX7_called 228 = .ok (.iaload, 1) := by decide +kernel
theorem dX7_called_229 : decode cX7_called 229 = .ok (.iastore, 1) := by decide +kernel
theorem dX7_called_230 : decode cX7_called 230 = .ok (.iinc 9 1, 3) := by decide +kernel
theorem dX7_called_233 : decode cX7_called 233 = .ok (.goto (-24), 3) := by decide +kernel
theorem dX7_called_236 : decode cX7_called 236 = .ok (.iinc 7 1, 3) := by decide +kernel
theorem dX7_called_239 : decode cX7_called 239 = .ok (.goto (-116), 3) := by decide +kernel
theorem dX7_called_242 : decode cX7_called 242 = .ok (.iload_n 3, 1) := by decide +kernel
theorem dX7_called_243 : decode cX7_called 243 = .ok (.iconst (-1), 1) := by decide +kernel
theorem dX7_called_244 : decode cX7_called 244 = .ok (.if_icmp .ne 8, 3) := by decide +kernel
theorem dX7_called_247 : decode cX7_called 247 = .ok (.iload 6, 2) := by decide +kernel
theorem dX7_called_249 : decode cX7_called 249 = .ok (.goto 9, 3) := by decide +kernel
theorem dX7_called_252 : decode cX7_called 252 = .ok (.aload_n 0, 1) := by decide +kernel
theorem dX7_called_253 : decode cX7_called 253 = .ok (.getfield 97, 3) := by decide +kernel
theorem dX7_called_256 : decode cX7_called 256 = .ok (.iload_n 3, 1) := by decide +kernel
theorem dX7_called_257 : decode cX7_called 257 = .ok (.iaload, 1) := by decide +kernel
theorem dX7_called_258 : decode cX7_called 258 = .ok (.ireturn, 1) := by decide +kernel
theorem dX7_acquits_0 : decode cX7_acquits 0 = .ok (.iconst 2, 1) := by decide +kernel
theorem dX7_acquits_1 : decode cX7_acquits 1 = .ok (.aload_n 0, 1) := by decide +kernel
theorem dX7_acquits_2 : decode cX7_acquits 2 = .ok (.getfield 7, 3) := by decide +kernel
theorem dX7_acquits_5 : decode cX7_acquits 5 = .ok (.iconst 0, 1) := by decide +kernel
theorem dX7_acquits_6 : decode cX7_acquits 6 = .ok (.iaload, 1) := by decide +kernel
theorem dX7_acquits_7 : decode cX7_acquits 7 = .ok (.imul, 1) := by decide +kernel
theorem dX7_acquits_8 : decode cX7_acquits 8 = .ok (.istore_n 3, 1) := by decide +kernel
theorem dX7_acquits_9 : decode cX7_acquits 9 = .ok (.iconst 1, 1) := by decide +kernel
theorem dX7_acquits_10 : decode cX7_acquits 10 = .ok (.istore 4, 2) := by decide +kernel
theorem dX7_acquits_12 : decode cX7_acquits 12 = .ok (.iconst 0, 1) := by decide +kernel
theorem dX7_acquits_13 : decode cX7_acquits 13 = .ok (.istore 5, 2) := by decide +kernel
theorem dX7_acquits_15 : decode cX7_acquits 15 = .ok (.iload 5, 2) := by decide +kernel
theorem dX7_acquits_17 : decode cX7_acquits 17 = .ok (.iload_n 2, 1) := by decide +kernel
theorem dX7_acquits_18 : decode cX7_acquits 18 = .ok (.if_icmp .ge 15, 3) := by decide +kernel
theorem dX7_acquits_21 : decode cX7_acquits 21 = .ok (.iload 4, 2) := by decide +kernel
theorem dX7_acquits_23 : decode cX7_acquits 23 = .ok (.iload_n 3, 1) := by decide +kernel
theorem dX7_acquits_24 : decode cX7_acquits 24 = .ok (.imul, 1) := by decide +kernel
theorem dX7_acquits_25 : decode cX7_acquits 25 = .ok (.istore 4, 2) := by decide +kernel
theorem dX7_acquits_27 : decode cX7_acquits 27 = .ok (.iinc 5 1, 3) := by decide +kernel
theorem dX7_acquits_30 : decode cX7_acquits 30 = .ok (.goto (-15), 3) := by decide +kernel
theorem dX7_acquits_33 : decode cX7_acquits 33 = .ok (.aload_n 0, 1) := by decide +kernel
theorem dX7_acquits_34 : decode cX7_acquits 34 = .ok (.iconst (-1), 1) := by decide +kernel
theorem dX7_acquits_35 : decode cX7_acquits 35 = .ok (.putfield 382, 3) := by decide +kernel
theorem dX7_acquits_38 : decode cX7_acquits 38 = .ok (.iconst 0, 1) := by decide +kernel
theorem dX7_acquits_39 : decode cX7_acquits 39 = .ok (.istore 5, 2) := by decide +kernel
theorem dX7_acquits_41 : decode cX7_acquits 41 = .ok (.iload 5, 2) := by decide +kernel
theorem dX7_acquits_43 : decode cX7_acquits 43 = .ok (.iload 4, 2) := by decide +kernel
theorem dX7_acquits_45 : decode cX7_acquits 45 = .ok (.if_icmp .ge 203, 3) := by decide +kernel
theorem dX7_acquits_48 : decode cX7_acquits 48 = .ok (.iload 5, 2) := by decide +kernel
theorem dX7_acquits_50 : decode cX7_acquits 50 = .ok (.istore 6, 2) := by decide +kernel
theorem dX7_acquits_52 : decode cX7_acquits 52 = .ok (.iload_n 2, 1) := by decide +kernel
theorem dX7_acquits_53 : decode cX7_acquits 53 = .ok (.iconst 1, 1) := by decide +kernel
theorem dX7_acquits_54 : decode cX7_acquits 54 = .ok (.isub, 1) := by decide +kernel
theorem dX7_acquits_55 : decode cX7_acquits 55 = .ok (.istore 7, 2) := by decide +kernel
theorem dX7_acquits_57 : decode cX7_acquits 57 = .ok (.iload 7, 2) := by decide +kernel
theorem dX7_acquits_59 : decode cX7_acquits 59 = .ok (.ifCond .lt 26, 3) := by decide +kernel
theorem dX7_acquits_62 : decode cX7_acquits 62 = .ok (.aload_n 0, 1) := by decide +kernel
theorem dX7_acquits_63 : decode cX7_acquits 63 = .ok (.getfield 100, 3) := by decide +kernel
theorem dX7_acquits_66 : decode cX7_acquits 66 = .ok (.iload 7, 2) := by decide +kernel
theorem dX7_acquits_68 : decode cX7_acquits 68 = .ok (.iload 6, 2) := by decide +kernel
theorem dX7_acquits_70 : decode cX7_acquits 70 = .ok (.iload_n 3, 1) := by decide +kernel
theorem dX7_acquits_71 : decode cX7_acquits 71 = .ok (.irem, 1) := by decide +kernel
theorem dX7_acquits_72 : decode cX7_acquits 72 = .ok (.iastore, 1) := by decide +kernel
theorem dX7_acquits_73 : decode cX7_acquits 73 = .ok (.iload 6, 2) := by decide +kernel
theorem dX7_acquits_75 : decode cX7_acquits 75 = .ok (.iload_n 3, 1) := by decide +kernel
theorem dX7_acquits_76 : decode cX7_acquits 76 = .ok (.idiv, 1) := by decide +kernel
theorem dX7_acquits_77 : decode cX7_acquits 77 = .ok (.istore 6, 2) := by decide +kernel
theorem dX7_acquits_79 : decode cX7_acquits 79 = .ok (.iinc 7 (-1), 3) := by decide +kernel
theorem dX7_acquits_82 : decode cX7_acquits 82 = .ok (.goto (-25), 3) := by decide +kernel
theorem dX7_acquits_85 : decode cX7_acquits 85 = .ok (.aload_n 0, 1) := by decide +kernel
theorem dX7_acquits_86 : decode cX7_acquits 86 = .ok (.invokevirtual 349, 3) := by decide +kernel
theorem dX7_acquits_89 : decode cX7_acquits 89 = .ok (.aload_n 0, 1) := by decide +kernel
theorem dX7_acquits_90 : decode cX7_acquits 90 = .ok (.getfield 85, 3) := by decide +kernel
theorem dX7_acquits_93 : decode cX7_acquits 93 = .ok (.iconst 0, 1) := by decide +kernel
theorem dX7_acquits_94 : decode cX7_acquits 94 = .ok (.iaload, 1) := by decide +kernel
theorem dX7_acquits_95 : decode cX7_acquits 95 = .ok (.aload_n 0, 1) := by decide +kernel
theorem dX7_acquits_96 : decode cX7_acquits 96 = .ok (.getfield 85, 3) := by decide +kernel
theorem dX7_acquits_99 : decode cX7_acquits 99 = .ok (.iconst 2, 1) := by decide +kernel
theorem dX7_acquits_100 : decode cX7_acquits 100 = .ok (.iaload, 1) := by decide +kernel
theorem dX7_acquits_101 : decode cX7_acquits 101 = .ok (.iadd, 1) := by decide +kernel
theorem dX7_acquits_102 : decode cX7_acquits 102 = .ok (.istore 7, 2) := by decide +kernel
theorem dX7_acquits_104 : decode cX7_acquits 104 = .ok (.iconst 1, 1) := by decide +kernel
theorem dX7_acquits_105 : decode cX7_acquits 105 = .ok (.istore 8, 2) := by decide +kernel
theorem dX7_acquits_107 : decode cX7_acquits 107 = .ok (.iconst 0, 1) := by decide +kernel
theorem dX7_acquits_108 : decode cX7_acquits 108 = .ok (.istore 9, 2) := by decide +kernel
theorem dX7_acquits_110 : decode cX7_acquits 110 = .ok (.iload 9, 2) := by decide +kernel
theorem dX7_acquits_112 : decode cX7_acquits 112 = .ok (.iload_n 2, 1) := by decide +kernel
theorem dX7_acquits_113 : decode cX7_acquits 113 = .ok (.if_icmp .ge 46, 3) := by decide +kernel
theorem dX7_acquits_116 : decode cX7_acquits 116 = .ok (.iload 8, 2) := by decide +kernel
theorem dX7_acquits_118 : decode cX7_acquits 118 = .ok (.ifCond .eq 41, 3) := by decide +kernel
theorem dX7_acquits_121 : decode cX7_acquits 121 = .ok (.aload_n 0, 1) := by decide +kernel
theorem dX7_acquits_122 : decode cX7_acquits 122 = .ok (.aload_n 0, 1) := by decide +kernel
theorem dX7_acquits_123 : decode cX7_acquits 123 = .ok (.getfield 100, 3) := by decide +kernel
theorem dX7_acquits_126 : decode cX7_acquits 126 = .ok (.iload 9, 2) := by decide +kernel
theorem dX7_acquits_128 : decode cX7_acquits 128 = .ok (.iaload, 1) := by decide +kernel
theorem dX7_acquits_129 : decode cX7_acquits 129 = .ok (.iconst 2, 1) := by decide +kernel
theorem dX7_acquits_130 : decode cX7_acquits 130 = .ok (.idiv, 1) := by decide +kernel
theorem dX7_acquits_131 : decode cX7_acquits 131 = .ok (.aload_n 0, 1) := by decide +kernel
theorem dX7_acquits_132 : decode cX7_acquits 132 = .ok (.getfield 100, 3) := by decide +kernel
theorem dX7_acquits_135 : decode cX7_acquits 135 = .ok (.iload 9, 2) := by decide +kernel
theorem dX7_acquits_137 : decode cX7_acquits 137 = .ok (.iaload, 1) := by decide +kernel
theorem dX7_acquits_138 : decode cX7_acquits 138 = .ok (.iconst 2, 1) := by decide +kernel
theorem dX7_acquits_139 : decode cX7_acquits 139 = .ok (.irem, 1) := by decide +kernel
theorem dX7_acquits_140 : decode cX7_acquits 140 = .ok (.invokevirtual 376, 3) := by decide +kernel
theorem dX7_acquits_143 : decode cX7_acquits 143 = .ok (.ifCond .le 7, 3) := by decide +kernel
theorem dX7_acquits_146 : decode cX7_acquits 146 = .ok (.iconst 1, 1) := by decide +kernel
theorem dX7_acquits_147 : decode cX7_acquits 147 = .ok (.goto 4, 3) := by decide +kernel
theorem dX7_acquits_150 : decode cX7_acquits 150 = .ok (.iconst 0, 1) := by decide +kernel
theorem dX7_acquits_151 : decode cX7_acquits 151 = .ok (.istore 8, 2) := by decide +kernel
theorem dX7_acquits_153 : decode cX7_acquits 153 = .ok (.iinc 9 1, 3) := by decide +kernel
theorem dX7_acquits_156 : decode cX7_acquits 156 = .ok (.goto (-46), 3) := by decide +kernel
theorem dX7_acquits_159 : decode cX7_acquits 159 = .ok (.iload 7, 2) := by decide +kernel
theorem dX7_acquits_161 : decode cX7_acquits 161 = .ok (.aload_n 0, 1) := by decide +kernel
theorem dX7_acquits_162 : decode cX7_acquits 162 = .ok (.getfield 85, 3) := by decide +kernel
theorem dX7_acquits_165 : decode cX7_acquits 165 = .ok (.iconst 0, 1) := by decide +kernel
theorem dX7_acquits_166 : decode cX7_acquits 166 = .ok (.iaload, 1) := by decide +kernel
theorem dX7_acquits_167 : decode cX7_acquits 167 = .ok (.aload_n 0, 1) := by decide +kernel
theorem dX7_acquits_168 : decode cX7_acquits 168 = .ok (.getfield 85, 3) := by decide +kernel
theorem dX7_acquits_171 : decode cX7_acquits 171 = .ok (.iconst 2, 1) := by decide +kernel
theorem dX7_acquits_172 : decode cX7_acquits 172 = .ok (.iaload, 1) := by decide +kernel
theorem dX7_acquits_173 : decode cX7_acquits 173 = .ok (.iadd, 1) := by decide +kernel
theorem dX7_acquits_174 : decode cX7_acquits 174 = .ok (.isub, 1) := by decide +kernel
theorem dX7_acquits_175 : decode cX7_acquits 175 = .ok (.istore 7, 2) := by decide +kernel
theorem dX7_acquits_177 : decode cX7_acquits 177 = .ok (.iload 8, 2) := by decide +kernel
theorem dX7_acquits_179 : decode cX7_acquits 179 = .ok (.ifCond .eq 63, 3) := by decide +kernel
theorem dX7_acquits_182 : decode cX7_acquits 182 = .ok (.aload_n 0, 1) := by decide +kernel
theorem dX7_acquits_183 : decode cX7_acquits 183 = .ok (.getfield 382, 3) := by decide +kernel
theorem dX7_acquits_186 : decode cX7_acquits 186 = .ok (.iconst (-1), 1) := by decide +kernel
theorem dX7_acquits_187 : decode cX7_acquits 187 = .ok (.if_icmp .eq 12, 3) := by decide +kernel
theorem dX7_acquits_190 : decode cX7_acquits 190 = .ok (.iload 7, 2) := by decide +kernel
theorem dX7_acquits_192 : decode cX7_acquits 192 = .ok (.aload_n 0, 1) := by decide +kernel
theorem dX7_acquits_193 : decode cX7_acquits 193 = .ok (.getfield 382, 3) := by decide +kernel
theorem dX7_acquits_196 : decode cX7_acquits 196 = .ok (.if_icmp .ge 46, 3) := by decide +kernel
theorem dX7_acquits_199 : decode cX7_acquits 199 = .ok (.aload_n 0, 1) := by decide +kernel
theorem dX7_acquits_200 : decode cX7_acquits 200 = .ok (.iload_n 1, 1) := by decide +kernel
theorem dX7_acquits_201 : decode cX7_acquits 201 = .ok (.invokevirtual 352, 3) := by decide +kernel
theorem dX7_acquits_204 : decode cX7_acquits 204 = .ok (.ifCond .ne 38, 3) := by decide +kernel
theorem dX7_acquits_207 : decode cX7_acquits 207 = .ok (.aload_n 0, 1) := by decide +kernel
theorem dX7_acquits_208 : decode cX7_acquits 208 = .ok (.iload 7, 2) := by decide +kernel
theorem dX7_acquits_210 : decode cX7_acquits 210 = .ok (.putfield 382, 3) := by decide +kernel
theorem dX7_acquits_213 : decode cX7_acquits 213 = .ok (.iconst 0, 1) := by decide +kernel
theorem dX7_acquits_214 : decode cX7_acquits 214 = .ok (.istore 9, 2) := by decide +kernel
theorem dX7_acquits_216 : decode cX7_acquits 216 = .ok (.iload 9, 2) := by decide +kernel
theorem dX7_acquits_218 : decode cX7_acquits 218 = .ok (.iload_n 2, 1) := by decide +kernel
theorem dX7_acquits_219 : decode cX7_acquits 219 = .ok (.if_icmp .ge 23, 3) := by decide +kernel
theorem dX7_acquits_222 : decode cX7_acquits 222 = .ok (.aload_n 0, 1) := by decide +kernel
theorem dX7_acquits_223 : decode cX7_acquits 223 = .ok (.getfield 103, 3) := by decide +kernel
theorem dX7_acquits_226 : decode cX7_acquits 226 = .ok (.iload 9, 2) := by decide +kernel
theorem dX7_acquits_228 : decode cX7_acquits 228 = .ok (.aload_n 0, 1) := by decide +kernel
theorem dX7_acquits_229 : decode cX7_acquits 229 = .ok (.getfield 100, 3) := by decide +kernel
theorem dX7_acquits_232 : decode cX7_acquits 232 = .ok (.iload 9, 2) := by decide +kernel
theorem dX7_acquits_234 : decode cX7_acquits 234 = .ok (.iaload, 1) := by decide +kernel
theorem dX7_acquits_235 : decode cX7_acquits 235 = .ok (.iastore, 1) := by decide +kernel
theorem dX7_acquits_236 : decode cX7_acquits 236 = .ok (.iinc 9 1, 3) := by decide +kernel
theorem dX7_acquits_239 : decode cX7_acquits 239 = .ok (.goto (-23), 3) := by decide +kernel
theorem dX7_acquits_242 : decode cX7_acquits 242 = .ok (.iinc 5 1, 3) := by decide +kernel
theorem dX7_acquits_245 : decode cX7_acquits 245 = .ok (.goto (-204), 3) := by decide +kernel
theorem dX7_acquits_248 : decode cX7_acquits 248 = .ok (.aload_n 0, 1) := by decide +kernel
theorem dX7_acquits_249 : decode cX7_acquits 249 = .ok (.getfield 382, 3) := by decide +kernel
theorem dX7_acquits_252 : decode cX7_acquits 252 = .ok (.iconst (-1), 1) := by decide +kernel
theorem dX7_acquits_253 : decode cX7_acquits 253 = .ok (.if_icmp .eq 7, 3) := by decide +kernel
theorem dX7_acquits_256 : decode cX7_acquits 256 = .ok (.iconst 1, 1) := by decide +kernel
theorem dX7_acquits_257 : decode cX7_acquits 257 = .ok (.goto 4, 3) := by decide +kernel
theorem dX7_acquits_260 : decode cX7_acquits 260 = .ok (.iconst 0, 1) := by decide +kernel
theorem dX7_acquits_261 : decode cX7_acquits 261 = .ok (.ireturn, 1) := by decide +kernel
theorem dX7_acquitted_0 : decode cX7_acquitted 0 = .ok (.iload_n 1, 1) := by decide +kernel
theorem dX7_acquitted_1 : decode cX7_acquitted 1 = .ok (.invokestatic 114, 3) := by decide +kernel
theorem dX7_acquitted_4 : decode cX7_acquitted 4 = .ok (.ifCond .eq 9, 3) := by decide +kernel
theorem dX7_acquitted_7 : decode cX7_acquitted 7 = .ok (.iload_n 2, 1) := by decide +kernel
theorem dX7_acquitted_8 : decode cX7_acquitted 8 = .ok (.bipush (-2), 2) := by decide +kernel
theorem dX7_acquitted_10 : decode cX7_acquitted 10 = .ok (.if_icmp .ge 6, 3) := by decide +kernel
theorem dX7_acquitted_13 : decode cX7_acquitted 13 = .ok (.bipush (-3), 2) := by decide +kernel
theorem dX7_acquitted_15 : decode cX7_acquitted 15 = .ok (.ireturn, 1) := by decide +kernel
theorem dX7_acquitted_16 : decode cX7_acquitted 16 = .ok (.iconst 0, 1) := by decide +kernel
theorem dX7_acquitted_17 : decode cX7_acquitted 17 = .ok (.istore_n 3, 1) := by decide +kernel
theorem dX7_acquitted_18 : decode cX7_acquitted 18 = .ok (.iload_n 3, 1) := by decide +kernel
theorem dX7_acquitted_19 : decode cX7_acquitted 19 = .ok (.iconst 5, 1) := by decide +kernel
theorem dX7_acquitted_20 : decode cX7_acquitted 20 = .ok (.if_icmp .ge 18, 3) := by decide +kernel
theorem dX7_acquitted_23 : decode cX7_acquitted 23 = .ok (.aload_n 0, 1) := by decide +kernel
theorem dX7_acquitted_24 : decode cX7_acquitted 24 = .ok (.iload_n 1, 1) := by decide +kernel
theorem dX7_acquitted_25 : decode cX7_acquitted 25 = .ok (.iload_n 3, 1) := by decide +kernel
theorem dX7_acquitted_26 : decode cX7_acquitted 26 = .ok (.invokevirtual 385, 3) := by decide +kernel
theorem dX7_acquitted_29 : decode cX7_acquitted 29 = .ok (.ifCond .ne 9, 3) := by decide +kernel
theorem dX7_acquitted_32 : decode cX7_acquitted 32 = .ok (.iinc 3 1, 3) := by decide +kernel
theorem dX7_acquitted_35 : decode cX7_acquitted 35 = .ok (.goto (-17), 3) := by decide +kernel
theorem dX7_acquitted_38 : decode cX7_acquitted 38 = .ok (.iload_n 3, 1) := by decide +kernel
theorem dX7_acquitted_39 : decode cX7_acquitted 39 = .ok (.iconst 5, 1) := by decide +kernel
theorem dX7_acquitted_40 : decode cX7_acquitted 40 = .ok (.if_icmp .eq 8, 3) := by decide +kernel
theorem dX7_acquitted_43 : decode cX7_acquitted 43 = .ok (.iload_n 2, 1) := by decide +kernel
theorem dX7_acquitted_44 : decode cX7_acquitted 44 = .ok (.iload_n 3, 1) := by decide +kernel
theorem dX7_acquitted_45 : decode cX7_acquitted 45 = .ok (.if_icmp .lt 6, 3) := by decide +kernel
theorem dX7_acquitted_48 : decode cX7_acquitted 48 = .ok (.bipush (-3), 2) := by decide +kernel
theorem dX7_acquitted_50 : decode cX7_acquitted 50 = .ok (.ireturn, 1) := by decide +kernel
theorem dX7_acquitted_51 : decode cX7_acquitted 51 = .ok (.iload_n 2, 1) := by decide +kernel
theorem dX7_acquitted_52 : decode cX7_acquitted 52 = .ok (.iconst (-1), 1) := by decide +kernel
theorem dX7_acquitted_53 : decode cX7_acquitted 53 = .ok (.if_icmp .ne 7, 3) := by decide +kernel
theorem dX7_acquitted_56 : decode cX7_acquitted 56 = .ok (.iload_n 3, 1) := by decide +kernel
theorem dX7_acquitted_57 : decode cX7_acquitted 57 = .ok (.goto 22, 3) := by decide +kernel
theorem dX7_acquitted_60 : decode cX7_acquitted 60 = .ok (.iload_n 2, 1) := by decide +kernel
theorem dX7_acquitted_61 : decode cX7_acquitted 61 = .ok (.bipush (-2), 2) := by decide +kernel
theorem dX7_acquitted_63 : decode cX7_acquitted 63 = .ok (.if_icmp .ne 10, 3) := by decide +kernel
theorem dX7_acquitted_66 : decode cX7_acquitted 66 = .ok (.aload_n 0, 1) := by decide +kernel
theorem dX7_acquitted_67 : decode cX7_acquitted 67 = .ok (.getfield 382, 3) := by decide +kernel
theorem dX7_acquitted_70 : decode cX7_acquitted 70 = .ok (.goto 9, 3) := by decide +kernel
theorem dX7_acquitted_73 : decode cX7_acquitted 73 = .ok (.aload_n 0, 1) := by decide +kernel
theorem dX7_acquitted_74 : decode cX7_acquitted 74 = .ok (.getfield 103, 3) := by decide +kernel
theorem dX7_acquitted_77 : decode cX7_acquitted 77 = .ok (.iload_n 2, 1) := by decide +kernel
theorem dX7_acquitted_78 : decode cX7_acquitted 78 = .ok (.iaload, 1) := by decide +kernel
theorem dX7_acquitted_79 : decode cX7_acquitted 79 = .ok (.ireturn, 1) := by decide +kernel
theorem dX7_sets_0 : decode cX7_sets 0 = .ok (.iload_n 1, 1) := by decide +kernel
theorem dX7_sets_1 : decode cX7_sets 1 = .ok (.invokestatic 114, 3) := by decide +kernel
theorem dX7_sets_4 : decode cX7_sets 4 = .ok (.ifCond .eq 27, 3) := by decide +kernel
theorem dX7_sets_7 : decode cX7_sets 7 = .ok (.iload_n 2, 1) := by decide +kernel
theorem dX7_sets_8 : decode cX7_sets 8 = .ok (.invokestatic 114, 3) := by decide +kernel
theorem dX7_sets_11 : decode cX7_sets 11 = .ok (.ifCond .eq 20, 3) := by decide +kernel
theorem dX7_sets_14 : decode cX7_sets 14 = .ok (.iload_n 3, 1) := by decide +kernel
theorem dX7_sets_15 : decode cX7_sets 15 = .ok (.iconst 0, 1) := by decide +kernel
theorem dX7_sets_16 : decode cX7_sets 16 = .ok (.sipush 999, 3) := by decide +kernel
theorem dX7_sets_19 : decode cX7_sets 19 = .ok (.invokestatic 110, 3) := by decide +kernel
theorem dX7_sets_22 : decode cX7_sets 22 = .ok (.ifCond .eq 9, 3) := by decide +kernel
theorem dX7_sets_25 : decode cX7_sets 25 = .ok (.iload 4, 2) := by decide +kernel
theorem dX7_sets_27 : decode cX7_sets 27 = .ok (.iconst (-1), 1) := by decide +kernel
theorem dX7_sets_28 : decode cX7_sets 28 = .ok (.if_icmp .ge 5, 3) := by decide +kernel
theorem dX7_sets_31 : decode cX7_sets 31 = .ok (.iconst (-1), 1) := by decide +kernel
theorem dX7_sets_32 : decode cX7_sets 32 = .ok (.ireturn, 1) := by decide +kernel
theorem dX7_sets_33 : decode cX7_sets 33 = .ok (.iconst 0, 1) := by decide +kernel
theorem dX7_sets_34 : decode cX7_sets 34 = .ok (.istore 5, 2) := by decide +kernel
theorem dX7_sets_36 : decode cX7_sets 36 = .ok (.iconst 0, 1) := by decide +kernel
theorem dX7_sets_37 : decode cX7_sets 37 = .ok (.istore 6, 2) := by decide +kernel
theorem dX7_sets_39 : decode cX7_sets 39 = .ok (.iload 6, 2) := by decide +kernel
theorem dX7_sets_41 : decode cX7_sets 41 = .ok (.iconst 1, 1) := by decide +kernel
theorem dX7_sets_42 : decode cX7_sets 42 = .ok (.aload_n 0, 1) := by decide +kernel
theorem dX7_sets_43 : decode cX7_sets 43 = .ok (.getfield 7, 3) := by decide +kernel
theorem dX7_sets_46 : decode cX7_sets 46 = .ok (.iconst 0, 1) := by decide +kernel
theorem dX7_sets_47 : decode cX7_sets 47 = .ok (.iaload, 1) := by decide +kernel
theorem dX7_sets_48 : decode cX7_sets 48 = .ok (.ishl, 1) := by decide +kernel
theorem dX7_sets_49 : decode cX7_sets 49 = .ok (.if_icmp .ge 100, 3) := by decide +kernel
theorem dX7_sets_52 : decode cX7_sets 52 = .ok (.aload_n 0, 1) := by decide +kernel
theorem dX7_sets_53 : decode cX7_sets 53 = .ok (.invokevirtual 349, 3) := by decide +kernel
theorem dX7_sets_56 : decode cX7_sets 56 = .ok (.iconst 1, 1) := by decide +kernel
theorem dX7_sets_57 : decode cX7_sets 57 = .ok (.istore 7, 2) := by decide +kernel
theorem dX7_sets_59 : decode cX7_sets 59 = .ok (.iconst 0, 1) := by decide +kernel
theorem dX7_sets_60 : decode cX7_sets 60 = .ok (.istore 8, 2) := by decide +kernel
theorem dX7_sets_62 : decode cX7_sets 62 = .ok (.iload 8, 2) := by decide +kernel
theorem dX7_sets_64 : decode cX7_sets 64 = .ok (.aload_n 0, 1) := by decide +kernel
theorem dX7_sets_65 : decode cX7_sets 65 = .ok (.getfield 7, 3) := by decide +kernel
theorem dX7_sets_68 : decode cX7_sets 68 = .ok (.iconst 0, 1) := by decide +kernel
theorem dX7_sets_69 : decode cX7_sets 69 = .ok (.iaload, 1) := by decide +kernel
theorem dX7_sets_70 : decode cX7_sets 70 = .ok (.if_icmp .ge 41, 3) := by decide +kernel
theorem dX7_sets_73 : decode cX7_sets 73 = .ok (.iload 7, 2) := by decide +kernel
theorem dX7_sets_75 : decode cX7_sets 75 = .ok (.ifCond .eq 36, 3) := by decide +kernel
theorem dX7_sets_78 : decode cX7_sets 78 = .ok (.iload 6, 2) := by decide +kernel
theorem dX7_sets_80 : decode cX7_sets 80 = .ok (.iload 8, 2) := by decide +kernel
theorem dX7_sets_82 : decode cX7_sets 82 = .ok (.ishr, 1) := by decide +kernel
theorem dX7_sets_83 : decode cX7_sets 83 = .ok (.iconst 1, 1) := by decide +kernel
theorem dX7_sets_84 : decode cX7_sets 84 = .ok (.iand, 1) := by decide +kernel
theorem dX7_sets_85 : decode cX7_sets 85 = .ok (.ifCond .eq 13, 3) := by decide +kernel
theorem dX7_sets_88 : decode cX7_sets 88 = .ok (.aload_n 0, 1) := by decide +kernel
theorem dX7_sets_89 : decode cX7_sets 89 = .ok (.iload 8, 2) := by decide +kernel
theorem dX7_sets_91 : decode cX7_sets 91 = .ok (.iload_n 2, 1) := by decide +kernel
theorem dX7_sets_92 : decode cX7_sets 92 = .ok (.invokevirtual 376, 3) := by decide +kernel
theorem dX7_sets_95 : decode cX7_sets 95 = .ok (.ifCond .le 7, 3) := by decide +kernel
theorem dX7_sets_98 : decode cX7_sets 98 = .ok (.iconst 1, 1) := by decide +kernel
theorem dX7_sets_99 : decode cX7_sets 99 = .ok (.goto 4, 3) := by decide +kernel
theorem dX7_sets_102 : decode cX7_sets 102 = .ok (.iconst 0, 1) := by decide +kernel
theorem dX7_sets_103 : decode cX7_sets 103 = .ok (.istore 7, 2) := by decide +kernel
theorem dX7_sets_105 : decode cX7_sets 105 = .ok (.iinc 8 1, 3) := by decide +kernel
theorem dX7_sets_108 : decode cX7_sets 108 = .ok (.goto (-46), 3) := by decide +kernel
theorem dX7_sets_111 : decode cX7_sets 111 = .ok (.iload 7, 2) := by decide +kernel
theorem dX7_sets_113 : decode cX7_sets 113 = .ok (.ifCond .eq 30, 3) := by decide +kernel
theorem dX7_sets_116 : decode cX7_sets 116 = .ok (.aload_n 0, 1) := by decide +kernel
theorem dX7_sets_117 : decode cX7_sets 117 = .ok (.getfield 85, 3) := by decide +kernel
theorem dX7_sets_120 : decode cX7_sets 120 = .ok (.iconst 2, 1) := by decide +kernel
theorem dX7_sets_121 : decode cX7_sets 121 = .ok (.iload_n 1, 1) := by decide +kernel
theorem dX7_sets_122 : decode cX7_sets 122 = .ok (.imul, 1) := by decide +kernel
theorem dX7_sets_123 : decode cX7_sets 123 = .ok (.iload_n 2, 1) := by decide +kernel
theorem dX7_sets_124 : decode cX7_sets 124 = .ok (.iadd, 1) := by decide +kernel
theorem dX7_sets_125 : decode cX7_sets 125 = .ok (.iaload, 1) := by decide +kernel
theorem dX7_sets_126 : decode cX7_sets 126 = .ok (.iload_n 3, 1) := by decide +kernel
theorem dX7_sets_127 : decode cX7_sets 127 = .ok (.if_icmp .ne 16, 3) := by decide +kernel
theorem dX7_sets_130 : decode cX7_sets 130 = .ok (.iload 5, 2) := by decide +kernel
theorem dX7_sets_132 : decode cX7_sets 132 = .ok (.iload 4, 2) := by decide +kernel
theorem dX7_sets_134 : decode cX7_sets 134 = .ok (.if_icmp .ne 6, 3) := by decide +kernel
theorem dX7_sets_137 : decode cX7_sets 137 = .ok (.iload 6, 2) := by decide +kernel
theorem dX7_sets_139 : decode cX7_sets 139 = .ok (.ireturn, 1) := by decide +kernel
theorem dX7_sets_140 : decode cX7_sets 140 = .ok (.iinc 5 1, 3) := by decide +kernel
theorem dX7_sets_143 : decode cX7_sets 143 = .ok (.iinc 6 1, 3) := by decide +kernel
theorem dX7_sets_146 : decode cX7_sets 146 = .ok (.goto (-107), 3) := by decide +kernel
theorem dX7_sets_149 : decode cX7_sets 149 = .ok (.iload 4, 2) := by decide +kernel
theorem dX7_sets_151 : decode cX7_sets 151 = .ok (.iconst (-1), 1) := by decide +kernel
theorem dX7_sets_152 : decode cX7_sets 152 = .ok (.if_icmp .ne 8, 3) := by decide +kernel
theorem dX7_sets_155 : decode cX7_sets 155 = .ok (.iload 5, 2) := by decide +kernel
theorem dX7_sets_157 : decode cX7_sets 157 = .ok (.goto 4, 3) := by decide +kernel
theorem dX7_sets_160 : decode cX7_sets 160 = .ok (.iconst (-1), 1) := by decide +kernel
theorem dX7_sets_161 : decode cX7_sets 161 = .ok (.ireturn, 1) := by decide +kernel
theorem dX7_tested_0 : decode cX7_tested 0 = .ok (.iload_n 1, 1) := by decide +kernel
theorem dX7_tested_1 : decode cX7_tested 1 = .ok (.bipush (-20), 2) := by decide +kernel
theorem dX7_tested_3 : decode cX7_tested 3 = .ok (.bipush 20, 2) := by decide +kernel
theorem dX7_tested_5 : decode cX7_tested 5 = .ok (.invokestatic 110, 3) := by decide +kernel
theorem dX7_tested_8 : decode cX7_tested 8 = .ok (.ifCond .eq 23, 3) := by decide +kernel
theorem dX7_tested_11 : decode cX7_tested 11 = .ok (.iload_n 2, 1) := by decide +kernel
theorem dX7_tested_12 : decode cX7_tested 12 = .ok (.iconst (-1), 1) := by decide +kernel
theorem dX7_tested_13 : decode cX7_tested 13 = .ok (.iconst 1, 1) := by decide +kernel
theorem dX7_tested_14 : decode cX7_tested 14 = .ok (.invokestatic 110, 3) := by decide +kernel
theorem dX7_tested_17 : decode cX7_tested 17 = .ok (.ifCond .eq 14, 3) := by decide +kernel
theorem dX7_tested_20 : decode cX7_tested 20 = .ok (.aload_n 0, 1) := by decide +kernel
theorem dX7_tested_21 : decode cX7_tested 21 = .ok (.getfield 7, 3) := by decide +kernel
theorem dX7_tested_24 : decode cX7_tested 24 = .ok (.iconst 4, 1) := by decide +kernel
theorem dX7_tested_25 : decode cX7_tested 25 = .ok (.iaload, 1) := by decide +kernel
theorem dX7_tested_26 : decode cX7_tested 26 = .ok (.bipush 12, 2) := by decide +kernel
theorem dX7_tested_28 : decode cX7_tested 28 = .ok (.if_icmp .ne 5, 3) := by decide +kernel
theorem dX7_tested_31 : decode cX7_tested 31 = .ok (.iconst (-1), 1) := by decide +kernel
theorem dX7_tested_32 : decode cX7_tested 32 = .ok (.ireturn, 1) := by decide +kernel
theorem dX7_tested_33 : decode cX7_tested 33 = .ok (.aload_n 0, 1) := by decide +kernel
theorem dX7_tested_34 : decode cX7_tested 34 = .ok (.getfield 7, 3) := by decide +kernel
theorem dX7_tested_37 : decode cX7_tested 37 = .ok (.bipush 40, 2) := by decide +kernel
theorem dX7_tested_39 : decode cX7_tested 39 = .ok (.iconst 2, 1) := by decide +kernel
theorem dX7_tested_40 : decode cX7_tested 40 = .ok (.aload_n 0, 1) := by decide +kernel
theorem dX7_tested_41 : decode cX7_tested 41 = .ok (.getfield 7, 3) := by decide +kernel
theorem dX7_tested_44 : decode cX7_tested 44 = .ok (.iconst 4, 1) := by decide +kernel
theorem dX7_tested_45 : decode cX7_tested 45 = .ok (.iaload, 1) := by decide +kernel
theorem dX7_tested_46 : decode cX7_tested 46 = .ok (.imul, 1) := by decide +kernel
theorem dX7_tested_47 : decode cX7_tested 47 = .ok (.iadd, 1) := by decide +kernel
theorem dX7_tested_48 : decode cX7_tested 48 = .ok (.iload_n 1, 1) := by decide +kernel
theorem dX7_tested_49 : decode cX7_tested 49 = .ok (.iastore, 1) := by decide +kernel
theorem dX7_tested_50 : decode cX7_tested 50 = .ok (.aload_n 0, 1) := by decide +kernel
theorem dX7_tested_51 : decode cX7_tested 51 = .ok (.getfield 7, 3) := by decide +kernel
theorem dX7_tested_54 : decode cX7_tested 54 = .ok (.bipush 40, 2) := by decide +kernel
theorem dX7_tested_56 : decode cX7_tested 56 = .ok (.iconst 2, 1) := by decide +kernel
theorem dX7_tested_57 : decode cX7_tested 57 = .ok (.aload_n 0, 1) := by decide +kernel
theorem dX7_tested_58 : decode cX7_tested 58 = .ok (.getfield 7, 3) := by decide +kernel
theorem dX7_tested_61 : decode cX7_tested 61 = .ok (.iconst 4, 1) := by decide +kernel
theorem dX7_tested_62 : decode cX7_tested 62 = .ok (.iaload, 1) := by decide +kernel
theorem dX7_tested_63 : decode cX7_tested 63 = .ok (.imul, 1) := by decide +kernel
theorem dX7_tested_64 : decode cX7_tested 64 = .ok (.iadd, 1) := by decide +kernel
theorem dX7_tested_65 : decode cX7_tested 65 = .ok (.iconst 1, 1) := by decide +kernel
theorem dX7_tested_66 : decode cX7_tested 66 = .ok (.iadd, 1) := by decide +kernel
theorem dX7_tested_67 : decode cX7_tested 67 = .ok (.iload_n 2, 1) := by decide +kernel
theorem dX7_tested_68 : decode cX7_tested 68 = .ok (.iastore, 1) := by decide +kernel
theorem dX7_tested_69 : decode cX7_tested 69 = .ok (.aload_n 0, 1) := by decide +kernel
theorem dX7_tested_70 : decode cX7_tested 70 = .ok (.getfield 7, 3) := by decide +kernel
theorem dX7_tested_73 : decode cX7_tested 73 = .ok (.iconst 4, 1) := by decide +kernel
theorem dX7_tested_74 : decode cX7_tested 74 = .ok (.dup2, 1) := by decide +kernel
theorem dX7_tested_75 : decode cX7_tested 75 = .ok (.iaload, 1) := by decide +kernel
theorem dX7_tested_76 : decode cX7_tested 76 = .ok (.iconst 1, 1) := by decide +kernel
theorem dX7_tested_77 : decode cX7_tested 77 = .ok (.iadd, 1) := by decide +kernel
theorem dX7_tested_78 : decode cX7_tested 78 = .ok (.iastore, 1) := by decide +kernel
theorem dX7_tested_79 : decode cX7_tested 79 = .ok (.aload_n 0, 1) := by decide +kernel
theorem dX7_tested_80 : decode cX7_tested 80 = .ok (.getfield 7, 3) := by decide +kernel
theorem dX7_tested_83 : decode cX7_tested 83 = .ok (.iconst 4, 1) := by decide +kernel
theorem dX7_tested_84 : decode cX7_tested 84 = .ok (.iaload, 1) := by decide +kernel
theorem dX7_tested_85 : decode cX7_tested 85 = .ok (.ireturn, 1) := by decide +kernel
theorem dX7_hangs_0 : decode cX7_hangs 0 = .ok (.iload_n 0, 1) := by decide +kernel
theorem dX7_hangs_1 : decode cX7_hangs 1 = .ok (.iload_n 1, 1) := by decide +kernel
theorem dX7_hangs_2 : decode cX7_hangs 2 = .ok (.iadd, 1) := by decide +kernel
theorem dX7_hangs_3 : decode cX7_hangs 3 = .ok (.ifCond .le 7, 3) := by decide +kernel
theorem dX7_hangs_6 : decode cX7_hangs 6 = .ok (.iconst 1, 1) := by decide +kernel
theorem dX7_hangs_7 : decode cX7_hangs 7 = .ok (.goto 14, 3) := by decide +kernel
theorem dX7_hangs_10 : decode cX7_hangs 10 = .ok (.iload_n 0, 1) := by decide +kernel
theorem dX7_hangs_11 : decode cX7_hangs 11 = .ok (.iload_n 1, 1) := by decide +kernel
theorem dX7_hangs_12 : decode cX7_hangs 12 = .ok (.iadd, 1) := by decide +kernel
theorem dX7_hangs_13 : decode cX7_hangs 13 = .ok (.ifCond .ge 7, 3) := by decide +kernel
theorem dX7_hangs_16 : decode cX7_hangs 16 = .ok (.iconst (-1), 1) := by decide +kernel
theorem dX7_hangs_17 : decode cX7_hangs 17 = .ok (.goto 4, 3) := by decide +kernel
theorem dX7_hangs_20 : decode cX7_hangs 20 = .ok (.iconst 0, 1) := by decide +kernel
theorem dX7_hangs_21 : decode cX7_hangs 21 = .ok (.ireturn, 1) := by decide +kernel
theorem dX7_fits_0 : decode cX7_fits 0 = .ok (.iconst 0, 1) := by decide +kernel
theorem dX7_fits_1 : decode cX7_fits 1 = .ok (.istore_n 1, 1) := by decide +kernel
theorem dX7_fits_2 : decode cX7_fits 2 = .ok (.iconst 0, 1) := by decide +kernel
theorem dX7_fits_3 : decode cX7_fits 3 = .ok (.istore_n 2, 1) := by decide +kernel
theorem dX7_fits_4 : decode cX7_fits 4 = .ok (.iload_n 2, 1) := by decide +kernel
theorem dX7_fits_5 : decode cX7_fits 5 = .ok (.bipush 10, 2) := by decide +kernel
theorem dX7_fits_7 : decode cX7_fits 7 = .ok (.if_icmp .ge 88, 3) := by decide +kernel
theorem dX7_fits_10 : decode cX7_fits 10 = .ok (.iconst 1, 1) := by decide +kernel
theorem dX7_fits_11 : decode cX7_fits 11 = .ok (.istore_n 3, 1) := by decide +kernel
theorem dX7_fits_12 : decode cX7_fits 12 = .ok (.iconst 0, 1) := by decide +kernel
theorem dX7_fits_13 : decode cX7_fits 13 = .ok (.istore 4, 2) := by decide +kernel
theorem dX7_fits_15 : decode cX7_fits 15 = .ok (.iload 4, 2) := by decide +kernel
theorem dX7_fits_17 : decode cX7_fits 17 = .ok (.aload_n 0, 1) := by decide +kernel
theorem dX7_fits_18 : decode cX7_fits 18 = .ok (.getfield 7, 3) := by decide +kernel
theorem dX7_fits_21 : decode cX7_fits 21 = .ok (.iconst 4, 1) := by decide +kernel
theorem dX7_fits_22 : decode cX7_fits 22 = .ok (.iaload, 1) := by decide +kernel
theorem dX7_fits_23 : decode cX7_fits 23 = .ok (.if_icmp .ge 52, 3) := by decide +kernel
theorem dX7_fits_26 : decode cX7_fits 26 = .ok (.iload_n 3, 1) := by decide +kernel
theorem dX7_fits_27 : decode cX7_fits 27 = .ok (.ifCond .eq 40, 3) := by decide +kernel
theorem dX7_fits_30 : decode cX7_fits 30 = .ok (.aload_n 0, 1) := by decide +kernel
theorem dX7_fits_31 : decode cX7_fits 31 = .ok (.getfield 7, 3) := by decide +kernel
theorem dX7_fits_34 : decode cX7_fits 34 = .ok (.bipush 40, 2) := by decide +kernel
theorem dX7_fits_36 : decode cX7_fits 36 = .ok (.iconst 2, 1) := by decide +kernel
theorem dX7_fits_37 : decode cX7_fits 37 = .ok (.iload 4, 2) := by decide +kernel
theorem dX7_fits_39 : decode cX7_fits 39 = .ok (.imul, 1) := by decide +kernel
theorem dX7_fits_40 : decode cX7_fits 40 = .ok (.iadd, 1) := by decide +kernel
theorem dX7_fits_41 : decode cX7_fits 41 = .ok (.iaload, 1) := by decide +kernel
theorem dX7_fits_42 : decode cX7_fits 42 = .ok (.iload_n 2, 1) := by decide +kernel
theorem dX7_fits_43 : decode cX7_fits 43 = .ok (.invokestatic 388, 3) := by decide +kernel
theorem dX7_fits_46 : decode cX7_fits 46 = .ok (.aload_n 0, 1) := by decide +kernel
theorem dX7_fits_47 : decode cX7_fits 47 = .ok (.getfield 7, 3) := by decide +kernel
theorem dX7_fits_50 : decode cX7_fits 50 = .ok (.bipush 40, 2) := by decide +kernel
theorem dX7_fits_52 : decode cX7_fits 52 = .ok (.iconst 2, 1) := by decide +kernel
theorem dX7_fits_53 : decode cX7_fits 53 = .ok (.iload 4, 2) := by decide +kernel
theorem dX7_fits_55 : decode cX7_fits 55 = .ok (.imul, 1) := by decide +kernel
theorem dX7_fits_56 : decode cX7_fits 56 = .ok (.iadd, 1) := by decide +kernel
theorem dX7_fits_57 : decode cX7_fits 57 = .ok (.iconst 1, 1) := by decide +kernel
theorem dX7_fits_58 : decode cX7_fits 58 = .ok (.iadd, 1) := by decide +kernel
theorem dX7_fits_59 : decode cX7_fits 59 = .ok (.iaload, 1) := by decide +kernel
theorem dX7_fits_60 : decode cX7_fits 60 = .ok (.if_icmp .ne 7, 3) := by decide +kernel
theorem dX7_fits_63 : decode cX7_fits 63 = .ok (.iconst 1, 1) := by decide +kernel
theorem dX7_fits_64 : decode cX7_fits 64 = .ok (.goto 4, 3) := by decide +kernel
theorem dX7_fits_67 : decode cX7_fits 67 = .ok (.iconst 0, 1) := by decide +kernel
theorem dX7_fits_68 : decode cX7_fits 68 = .ok (.istore_n 3, 1) := by decide +kernel
theorem dX7_fits_69 : decode cX7_fits 69 = .ok (.iinc 4 1, 3) := by decide +kernel
theorem dX7_fits_72 : decode cX7_fits 72 = .ok (.goto (-57), 3) := by decide +kernel
theorem dX7_fits_75 : decode cX7_fits 75 = .ok (.iload_n 1, 1) := by decide +kernel
theorem dX7_fits_76 : decode cX7_fits 76 = .ok (.iload_n 3, 1) := by decide +kernel
theorem dX7_fits_77 : decode cX7_fits 77 = .ok (.ifCond .eq 9, 3) := by decide +kernel
theorem dX7_fits_80 : decode cX7_fits 80 = .ok (.iconst 1, 1) := by decide +kernel
theorem dX7_fits_81 : decode cX7_fits 81 = .ok (.iload_n 2, 1) := by decide +kernel
theorem dX7_fits_82 : decode cX7_fits 82 = .ok (.ishl, 1) := by decide +kernel
theorem dX7_fits_83 : decode cX7_fits 83 = .ok (.goto 4, 3) := by decide +kernel
theorem dX7_fits_86 : decode cX7_fits 86 = .ok (.iconst 0, 1) := by decide +kernel
theorem dX7_fits_87 : decode cX7_fits 87 = .ok (.ior, 1) := by decide +kernel
theorem dX7_fits_88 : decode cX7_fits 88 = .ok (.istore_n 1, 1) := by decide +kernel
theorem dX7_fits_89 : decode cX7_fits 89 = .ok (.iinc 2 1, 3) := by decide +kernel
theorem dX7_fits_92 : decode cX7_fits 92 = .ok (.goto (-88), 3) := by decide +kernel
theorem dX7_fits_95 : decode cX7_fits 95 = .ok (.iload_n 1, 1) := by decide +kernel
theorem dX7_fits_96 : decode cX7_fits 96 = .ok (.ireturn, 1) := by decide +kernel
theorem dX7_mostAlike_0 : decode cX7_mostAlike 0 = .ok (.iconst 0, 1) := by decide +kernel
theorem dX7_mostAlike_1 : decode cX7_mostAlike 1 = .ok (.istore_n 2, 1) := by decide +kernel
theorem dX7_mostAlike_2 : decode cX7_mostAlike 2 = .ok (.iconst (-1), 1) := by decide +kernel
theorem dX7_mostAlike_3 : decode cX7_mostAlike 3 = .ok (.istore_n 3, 1) := by decide +kernel
theorem dX7_mostAlike_4 : decode cX7_mostAlike 4 = .ok (.iload_n 3, 1) := by decide +kernel
theorem dX7_mostAlike_5 : decode cX7_mostAlike 5 = .ok (.iconst 2, 1) := by decide +kernel
theorem dX7_mostAlike_6 : decode cX7_mostAlike 6 = .ok (.if_icmp .ge 71, 3) := by decide +kernel
theorem dX7_mostAlike_9 : decode cX7_mostAlike 9 = .ok (.iconst 0, 1) := by decide +kernel
theorem dX7_mostAlike_10 : decode cX7_mostAlike 10 = .ok (.istore 4, 2) := by decide +kernel
theorem dX7_mostAlike_12 : decode cX7_mostAlike 12 = .ok (.iconst 0, 1) := by decide +kernel
theorem dX7_mostAlike_13 : decode cX7_mostAlike 13 = .ok (.istore 5, 2) := by decide +kernel
theorem dX7_mostAlike_15 : decode cX7_mostAlike 15 = .ok (.iload 5, 2) := by decide +kernel
theorem dX7_mostAlike_17 : decode cX7_mostAlike 17 = .ok (.bipush 10, 2) := by decide +kernel
theorem dX7_mostAlike_19 : decode cX7_mostAlike 19 = .ok (.if_icmp .ge 39, 3) := by decide +kernel
theorem dX7_mostAlike_22 : decode cX7_mostAlike 22 = .ok (.iload 4, 2) := by decide +kernel
theorem dX7_mostAlike_24 : decode cX7_mostAlike 24 = .ok (.iload_n 0, 1) := by decide +kernel
theorem dX7_mostAlike_25 : decode cX7_mostAlike 25 = .ok (.iload 5, 2) := by decide +kernel
theorem dX7_mostAlike_27 : decode cX7_mostAlike 27 = .ok (.ishr, 1) := by decide +kernel
theorem dX7_mostAlike_28 : decode cX7_mostAlike 28 = .ok (.iconst 1, 1) := by decide +kernel
theorem dX7_mostAlike_29 : decode cX7_mostAlike 29 = .ok (.iand, 1) := by decide +kernel
theorem dX7_mostAlike_30 : decode cX7_mostAlike 30 = .ok (.iconst 1, 1) := by decide +kernel
theorem dX7_mostAlike_31 : decode cX7_mostAlike 31 = .ok (.if_icmp .ne 17, 3) := by decide +kernel
theorem dX7_mostAlike_34 : decode cX7_mostAlike 34 = .ok (.iload_n 1, 1) := by decide +kernel
theorem dX7_mostAlike_35 : decode cX7_mostAlike 35 = .ok (.iload 5, 2) := by decide +kernel
theorem dX7_mostAlike_37 : decode cX7_mostAlike 37 = .ok (.invokestatic 388, 3) := by decide +kernel
theorem dX7_mostAlike_40 : decode cX7_mostAlike 40 = .ok (.iload_n 3, 1) := by decide +kernel
theorem dX7_mostAlike_41 : decode cX7_mostAlike 41 = .ok (.if_icmp .ne 7, 3) := by decide +kernel
theorem dX7_mostAlike_44 : decode cX7_mostAlike 44 = .ok (.iconst 1, 1) := by decide +kernel
theorem dX7_mostAlike_45 : decode cX7_mostAlike 45 = .ok (.goto 4, 3) := by decide +kernel
theorem dX7_mostAlike_48 : decode cX7_mostAlike 48 = .ok (.iconst 0, 1) := by decide +kernel
theorem dX7_mostAlike_49 : decode cX7_mostAlike 49 = .ok (.iadd, 1) := by decide +kernel
theorem dX7_mostAlike_50 : decode cX7_mostAlike 50 = .ok (.istore 4, 2) := by decide +kernel
theorem dX7_mostAlike_52 : decode cX7_mostAlike 52 = .ok (.iinc 5 1, 3) := by decide +kernel
theorem dX7_mostAlike_55 : decode cX7_mostAlike 55 = .ok (.goto (-40), 3) := by decide +kernel
theorem dX7_mostAlike_58 : decode cX7_mostAlike 58 = .ok (.iload 4, 2) := by decide +kernel
theorem dX7_mostAlike_60 : decode cX7_mostAlike 60 = .ok (.iload_n 2, 1) := by decide +kernel
theorem dX7_mostAlike_61 : decode cX7_mostAlike 61 = .ok (.if_icmp .le 8, 3) := by decide +kernel
theorem dX7_mostAlike_64 : decode cX7_mostAlike 64 = .ok (.iload 4, 2) := by decide +kernel
theorem dX7_mostAlike_66 : decode cX7_mostAlike 66 = .ok (.goto 4, 3) := by decide +kernel
theorem dX7_mostAlike_69 : decode cX7_mostAlike 69 = .ok (.iload_n 2, 1) := by decide +kernel
theorem dX7_mostAlike_70 : decode cX7_mostAlike 70 = .ok (.istore_n 2, 1) := by decide +kernel
theorem dX7_mostAlike_71 : decode cX7_mostAlike 71 = .ok (.iinc 3 1, 3) := by decide +kernel
theorem dX7_mostAlike_74 : decode cX7_mostAlike 74 = .ok (.goto (-70), 3) := by decide +kernel
theorem dX7_mostAlike_77 : decode cX7_mostAlike 77 = .ok (.iload_n 2, 1) := by decide +kernel
theorem dX7_mostAlike_78 : decode cX7_mostAlike 78 = .ok (.ireturn, 1) := by decide +kernel
theorem dX7_next_0 : decode cX7_next 0 = .ok (.aload_n 0, 1) := by decide +kernel
theorem dX7_next_1 : decode cX7_next 1 = .ok (.invokevirtual 391, 3) := by decide +kernel
theorem dX7_next_4 : decode cX7_next 4 = .ok (.istore_n 1, 1) := by decide +kernel
theorem dX7_next_5 : decode cX7_next 5 = .ok (.bipush (-99), 2) := by decide +kernel
theorem dX7_next_7 : decode cX7_next 7 = .ok (.istore_n 2, 1) := by decide +kernel
theorem dX7_next_8 : decode cX7_next 8 = .ok (.bipush 11, 2) := by decide +kernel
theorem dX7_next_10 : decode cX7_next 10 = .ok (.istore_n 3, 1) := by decide +kernel
theorem dX7_next_11 : decode cX7_next 11 = .ok (.bipush (-20), 2) := by decide +kernel
theorem dX7_next_13 : decode cX7_next 13 = .ok (.istore 4, 2) := by decide +kernel
theorem dX7_next_15 : decode cX7_next 15 = .ok (.iload 4, 2) := by decide +kernel
theorem dX7_next_17 : decode cX7_next 17 = .ok (.bipush 21, 2) := by decide +kernel
theorem dX7_next_19 : decode cX7_next 19 = .ok (.if_icmp .ge 33, 3) := by decide +kernel
theorem dX7_next_22 : decode cX7_next 22 = .ok (.iload_n 1, 1) := by decide +kernel
theorem dX7_next_23 : decode cX7_next 23 = .ok (.ifCond .eq 29, 3) := by decide +kernel
theorem dX7_next_26 : decode cX7_next 26 = .ok (.iload_n 1, 1) := by decide +kernel
theorem dX7_next_27 : decode cX7_next 27 = .ok (.iload 4, 2) := by decide +kernel
theorem dX7_next_29 : decode cX7_next 29 = .ok (.invokestatic 394, 3) := by decide +kernel
theorem dX7_next_32 : decode cX7_next 32 = .ok (.istore 5, 2) := by decide +kernel
theorem dX7_next_34 : decode cX7_next 34 = .ok (.iload 5, 2) := by decide +kernel
theorem dX7_next_36 : decode cX7_next 36 = .ok (.iload_n 3, 1) := by decide +kernel
theorem dX7_next_37 : decode cX7_next 37 = .ok (.if_icmp .ge 9, 3) := by decide +kernel
theorem dX7_next_40 : decode cX7_next 40 = .ok (.iload 5, 2) := by decide +kernel
theorem dX7_next_42 : decode cX7_next 42 = .ok (.istore_n 3, 1) := by decide +kernel
theorem dX7_next_43 : decode cX7_next 43 = .ok (.iload 4, 2) := by decide +kernel
theorem dX7_next_45 : decode cX7_next 45 = .ok (.istore_n 2, 1) := by decide +kernel
theorem dX7_next_46 : decode cX7_next 46 = .ok (.iinc 4 1, 3) := by decide +kernel
theorem dX7_next_49 : decode cX7_next 49 = .ok (.goto (-34), 3) := by decide +kernel
theorem dX7_next_52 : decode cX7_next 52 = .ok (.iload_n 2, 1) := by decide +kernel
theorem dX7_next_53 : decode cX7_next 53 = .ok (.ireturn, 1) := by decide +kernel
theorem dX7_hired_0 : decode cX7_hired 0 = .ok (.iload_n 1, 1) := by decide +kernel
theorem dX7_hired_1 : decode cX7_hired 1 = .ok (.iconst 1, 1) := by decide +kernel
theorem dX7_hired_2 : decode cX7_hired 2 = .ok (.sipush 9999, 3) := by decide +kernel
theorem dX7_hired_5 : decode cX7_hired 5 = .ok (.invokestatic 110, 3) := by decide +kernel
theorem dX7_hired_8 : decode cX7_hired 8 = .ok (.ifCond .ne 5, 3) := by decide +kernel
theorem dX7_hired_11 : decode cX7_hired 11 = .ok (.iconst (-1), 1) := by decide +kernel
theorem dX7_hired_12 : decode cX7_hired 12 = .ok (.ireturn, 1) := by decide +kernel
theorem dX7_hired_13 : decode cX7_hired 13 = .ok (.aload_n 0, 1) := by decide +kernel
theorem dX7_hired_14 : decode cX7_hired 14 = .ok (.invokevirtual 349, 3) := by decide +kernel
theorem dX7_hired_17 : decode cX7_hired 17 = .ok (.iconst (-1), 1) := by decide +kernel
theorem dX7_hired_18 : decode cX7_hired 18 = .ok (.istore_n 2, 1) := by decide +kernel
theorem dX7_hired_19 : decode cX7_hired 19 = .ok (.iconst 0, 1) := by decide +kernel
theorem dX7_hired_20 : decode cX7_hired 20 = .ok (.istore_n 3, 1) := by decide +kernel
theorem dX7_hired_21 : decode cX7_hired 21 = .ok (.iconst 0, 1) := by decide +kernel
theorem dX7_hired_22 : decode cX7_hired 22 = .ok (.istore 4, 2) := by decide +kernel
theorem dX7_hired_24 : decode cX7_hired 24 = .ok (.iconst 1, 1) := by decide +kernel
theorem dX7_hired_25 : decode cX7_hired 25 = .ok (.istore 5, 2) := by decide +kernel
theorem dX7_hired_27 : decode cX7_hired 27 = .ok (.iload 5, 2) := by decide +kernel
theorem dX7_hired_29 : decode cX7_hired 29 = .ok (.iconst 1, 1) := by decide +kernel
theorem dX7_hired_30 : decode cX7_hired 30 = .ok (.aload_n 0, 1) := by decide +kernel
theorem dX7_hired_31 : decode cX7_hired 31 = .ok (.getfield 7, 3) := by decide +kernel
theorem dX7_hired_34 : decode cX7_hired 34 = .ok (.iconst 0, 1) := by decide +kernel
theorem dX7_hired_35 : decode cX7_hired 35 = .ok (.iaload, 1) := by decide +kernel
theorem dX7_hired_36 : decode cX7_hired 36 = .ok (.ishl, 1) := by decide +kernel
theorem dX7_hired_37 : decode cX7_hired 37 = .ok (.if_icmp .ge 122, 3) := by decide +kernel
theorem dX7_hired_40 : decode cX7_hired 40 = .ok (.iconst 0, 1) := by decide +kernel
theorem dX7_hired_41 : decode cX7_hired 41 = .ok (.istore 6, 2) := by decide +kernel
theorem dX7_hired_43 : decode cX7_hired 43 = .ok (.iconst 0, 1) := by decide +kernel
theorem dX7_hired_44 : decode cX7_hired 44 = .ok (.istore 7, 2) := by decide +kernel
theorem dX7_hired_46 : decode cX7_hired 46 = .ok (.iconst 0, 1) := by decide +kernel
theorem dX7_hired_47 : decode cX7_hired 47 = .ok (.istore 8, 2) := by decide +kernel
theorem dX7_hired_49 : decode cX7_hired 49 = .ok (.iconst 0, 1) := by decide +kernel
theorem dX7_hired_50 : decode cX7_hired 50 = .ok (.istore 9, 2) := by decide +kernel
theorem dX7_hired_52 : decode cX7_hired 52 = .ok (.iload 9, 2) := by decide +kernel
theorem dX7_hired_54 : decode cX7_hired 54 = .ok (.aload_n 0, 1) := by decide +kernel
theorem dX7_hired_55 : decode cX7_hired 55 = .ok (.getfield 7, 3) := by decide +kernel
theorem dX7_hired_58 : decode cX7_hired 58 = .ok (.iconst 0, 1) := by decide +kernel
theorem dX7_hired_59 : decode cX7_hired 59 = .ok (.iaload, 1) := by decide +kernel
theorem dX7_hired_60 : decode cX7_hired 60 = .ok (.if_icmp .ge 53, 3) := by decide +kernel
theorem dX7_hired_63 : decode cX7_hired 63 = .ok (.iload 5, 2) := by decide +kernel
theorem dX7_hired_65 : decode cX7_hired 65 = .ok (.iload 9, 2) := by decide +kernel
theorem dX7_hired_67 : decode cX7_hired 67 = .ok (.ishr, 1) := by decide +kernel
theorem dX7_hired_68 : decode cX7_hired 68 = .ok (.iconst 1, 1) := by decide +kernel
theorem dX7_hired_69 : decode cX7_hired 69 = .ok (.iand, 1) := by decide +kernel
theorem dX7_hired_70 : decode cX7_hired 70 = .ok (.iconst 1, 1) := by decide +kernel
theorem dX7_hired_71 : decode cX7_hired 71 = .ok (.if_icmp .ne 36, 3) := by decide +kernel
theorem dX7_hired_74 : decode cX7_hired 74 = .ok (.iload 6, 2) := by decide +kernel
theorem dX7_hired_76 : decode cX7_hired 76 = .ok (.aload_n 0, 1) := by decide +kernel
theorem dX7_hired_77 : decode cX7_hired 77 = .ok (.iload 9, 2) := by decide +kernel
theorem dX7_hired_79 : decode cX7_hired 79 = .ok (.invokevirtual 331, 3) := by decide +kernel
theorem dX7_hired_82 : decode cX7_hired 82 = .ok (.iadd, 1) := by decide +kernel
theorem dX7_hired_83 : decode cX7_hired 83 = .ok (.istore 6, 2) := by decide +kernel
theorem dX7_hired_85 : decode cX7_hired 85 = .ok (.iload 7, 2) := by decide +kernel
theorem dX7_hired_87 : decode cX7_hired 87 = .ok (.aload_n 0, 1) := by decide +kernel
theorem dX7_hired_88 : decode cX7_hired 88 = .ok (.getfield 7, 3) := by decide +kernel
theorem dX7_hired_91 : decode cX7_hired 91 = .ok (.bipush 10, 2) := by decide +kernel
theorem dX7_hired_93 : decode cX7_hired 93 = .ok (.iconst 3, 1) := by decide +kernel
theorem dX7_hired_94 : decode cX7_hired 94 = .ok (.iload 9, 2) := by decide +kernel
theorem dX7_hired_96 : decode cX7_hired 96 = .ok (.imul, 1) := by decide +kernel
theorem dX7_hired_97 : decode cX7_hired 97 = .ok (.iadd, 1) := by decide +kernel
theorem dX7_hired_98 : decode cX7_hired 98 = .ok (.iconst 2, 1) := by decide +kernel
theorem dX7_hired_99 : decode cX7_hired 99 = .ok (.iadd, 1) := by decide +kernel
theorem dX7_hired_100 : decode cX7_hired 100 = .ok (.iaload, 1) := by decide +kernel
theorem dX7_hired_101 : decode cX7_hired 101 = .ok (.iadd, 1) := by decide +kernel
theorem dX7_hired_102 : decode cX7_hired 102 = .ok (.istore 7, 2) := by decide +kernel
theorem dX7_hired_104 : decode cX7_hired 104 = .ok (.iinc 8 1, 3) := by decide +kernel
theorem dX7_hired_107 : decode cX7_hired 107 = .ok (.iinc 9 1, 3) := by decide +kernel
theorem dX7_hired_110 : decode cX7_hired 110 = .ok (.goto (-58), 3) := by decide +kernel
theorem dX7_hired_113 : decode cX7_hired 113 = .ok (.iload 6, 2) := by decide +kernel
theorem dX7_hired_115 : decode cX7_hired 115 = .ok (.iload_n 1, 1) := by decide +kernel
theorem dX7_hired_116 : decode cX7_hired 116 = .ok (.if_icmp .lt 37, 3) := by decide +kernel
theorem dX7_hired_119 : decode cX7_hired 119 = .ok (.iload_n 2, 1) := by decide +kernel
theorem dX7_hired_120 : decode cX7_hired 120 = .ok (.iconst (-1), 1) := by decide +kernel
theorem dX7_hired_121 : decode cX7_hired 121 = .ok (.if_icmp .eq 22, 3) := by decide +kernel
theorem dX7_hired_124 : decode cX7_hired 124 = .ok (.iload 7, 2) := by decide +kernel
theorem dX7_hired_126 : decode cX7_hired 126 = .ok (.iload_n 3, 1) := by decide +kernel
theorem dX7_hired_127 : decode cX7_hired 127 = .ok (.if_icmp .lt 16, 3) := by decide +kernel
theorem dX7_hired_130 : decode cX7_hired 130 = .ok (.iload 7, 2) := by decide +kernel
theorem dX7_hired_132 : decode cX7_hired 132 = .ok (.iload_n 3, 1) := by decide +kernel
theorem dX7_hired_133 : decode cX7_hired 133 = .ok (.if_icmp .ne 20, 3) := by decide +kernel
theorem dX7_hired_136 : decode cX7_hired 136 = .ok (.iload 8, 2) := by decide +kernel
theorem dX7_hired_138 : decode cX7_hired 138 = .ok (.iload 4, 2) := by decide +kernel
theorem dX7_hired_140 : decode cX7_hired 140 = .ok (.if_icmp .ge 13, 3) := by decide +kernel
theorem dX7_hired_143 : decode cX7_hired 143 = .ok (.iload 5, 2) := by decide +kernel
theorem dX7_hired_145 : decode cX7_hired 145 = .ok (.istore_n 2, 1) := by decide +kernel
theorem dX7_hired_146 : decode cX7_hired 146 = .ok (.iload 7, 2) := by decide +kernel
theorem dX7_hired_148 : decode cX7_hired 148 = .ok (.istore_n 3, 1) := by decide +kernel
theorem dX7_hired_149 : decode cX7_hired 149 = .ok (.iload 8, 2) := by decide +kernel
theorem dX7_hired_151 : decode cX7_hired 151 = .ok (.istore 4, 2) := by decide +kernel
theorem dX7_hired_153 : decode cX7_hired 153 = .ok (.iinc 5 1, 3) := by decide +kernel
theorem dX7_hired_156 : decode cX7_hired 156 = .ok (.goto (-129), 3) := by decide +kernel
theorem dX7_hired_159 : decode cX7_hired 159 = .ok (.iload_n 2, 1) := by decide +kernel
theorem dX7_hired_160 : decode cX7_hired 160 = .ok (.ireturn, 1) := by decide +kernel
theorem dX7_contrary_0 : decode cX7_contrary 0 = .ok (.iconst 1, 1) := by decide +kernel
theorem dX7_contrary_1 : decode cX7_contrary 1 = .ok (.istore_n 1, 1) := by decide +kernel
theorem dX7_contrary_2 : decode cX7_contrary 2 = .ok (.iload_n 1, 1) := by decide +kernel
theorem dX7_contrary_3 : decode cX7_contrary 3 = .ok (.aload_n 0, 1) := by decide +kernel
theorem dX7_contrary_4 : decode cX7_contrary 4 = .ok (.getfield 7, 3) := by decide +kernel
theorem dX7_contrary_7 : decode cX7_contrary 7 = .ok (.sipush 373, 3) := by decide +kernel
theorem dX7_contrary_10 : decode cX7_contrary 10 = .ok (.iaload, 1) := by decide +kernel
theorem dX7_contrary_11 : decode cX7_contrary 11 = .ok (.if_icmp .ge 102, 3) := by decide +kernel
theorem dX7_contrary_14 : decode cX7_contrary 14 = .ok (.iconst 0, 1) := by decide +kernel
theorem dX7_contrary_15 : decode cX7_contrary 15 = .ok (.istore_n 2, 1) := by decide +kernel
theorem dX7_contrary_16 : decode cX7_contrary 16 = .ok (.iload_n 2, 1) := by decide +kernel
theorem dX7_contrary_17 : decode cX7_contrary 17 = .ok (.iload_n 1, 1) := by decide +kernel
theorem dX7_contrary_18 : decode cX7_contrary 18 = .ok (.if_icmp .ge 89, 3) := by decide +kernel
theorem dX7_contrary_21 : decode cX7_contrary 21 = .ok (.sipush 374, 3) := by decide +kernel
theorem dX7_contrary_24 : decode cX7_contrary 24 = .ok (.iconst 3, 1) := by decide +kernel
theorem dX7_contrary_25 : decode cX7_contrary 25 = .ok (.iload_n 2, 1) := by decide +kernel
theorem dX7_contrary_26 : decode cX7_contrary 26 = .ok (.imul, 1) := by decide +kernel
theorem dX7_contrary_27 : decode cX7_contrary 27 = .ok (.iadd, 1) := by decide +kernel
theorem dX7_contrary_28 : decode cX7_contrary 28 = .ok (.istore_n 3, 1) := by decide +kernel
theorem dX7_contrary_29 : decode cX7_contrary 29 = .ok (.sipush 374, 3) := by decide +kernel
theorem dX7_contrary_32 : decode cX7_contrary 32 = .ok (.iconst 3, 1) := by decide +kernel
theorem dX7_contrary_33 : decode cX7_contrary 33 = .ok (.iload_n 1, 1) := by decide +kernel
theorem dX7_contrary_34 : decode cX7_contrary 34 = .ok (.imul, 1) := by decide +kernel
theorem dX7_contrary_35 : decode cX7_contrary 35 = .ok (.iadd, 1) := by decide +kernel
theorem dX7_contrary_36 : decode cX7_contrary 36 = .ok (.istore 4, 2) := by decide +kernel
theorem dX7_contrary_38 : decode cX7_contrary 38 = .ok (.aload_n 0, 1) := by decide +kernel
theorem dX7_contrary_39 : decode cX7_contrary 39 = .ok (.getfield 7, 3) := by decide +kernel
theorem dX7_contrary_42 : decode cX7_contrary 42 = .ok (.iload_n 3, 1) := by decide +kernel
theorem dX7_contrary_43 : decode cX7_contrary 43 = .ok (.iaload, 1) := by decide +kernel
theorem dX7_contrary_44 : decode cX7_contrary 44 = .ok (.aload_n 0, 1) := by decide +kernel
theorem dX7_contrary_45 : decode cX7_contrary 45 = .ok (.getfield 7, 3) := by decide +kernel
theorem dX7_contrary_48 : decode cX7_contrary 48 = .ok (.iload 4, 2) := by decide +kernel
theorem dX7_contrary_50 : decode cX7_contrary 50 = .ok (.iaload, 1) := by decide +kernel
theorem dX7_contrary_51 : decode cX7_contrary 51 = .ok (.if_icmp .ne 50, 3) := by decide +kernel
theorem dX7_contrary_54 : decode cX7_contrary 54 = .ok (.aload_n 0, 1) := by decide +kernel
theorem dX7_contrary_55 : decode cX7_contrary 55 = .ok (.getfield 7, 3) := by decide +kernel
theorem dX7_contrary_58 : decode cX7_contrary 58 = .ok (.iload_n 3, 1) := by decide +kernel
theorem dX7_contrary_59 : decode cX7_contrary 59 = .ok (.iconst 1, 1) := by decide +kernel
theorem dX7_contrary_60 : decode cX7_contrary 60 = .ok (.iadd, 1) := by decide +kernel
theorem dX7_contrary_61 : decode cX7_contrary 61 = .ok (.iaload, 1) := by decide +kernel
theorem dX7_contrary_62 : decode cX7_contrary 62 = .ok (.aload_n 0, 1) := by decide +kernel
theorem dX7_contrary_63 : decode cX7_contrary 63 = .ok (.getfield 7, 3) := by decide +kernel
theorem dX7_contrary_66 : decode cX7_contrary 66 = .ok (.iload 4, 2) := by decide +kernel
theorem dX7_contrary_68 : decode cX7_contrary 68 = .ok (.iconst 1, 1) := by decide +kernel
theorem dX7_contrary_69 : decode cX7_contrary 69 = .ok (.iadd, 1) := by decide +kernel
theorem dX7_contrary_70 : decode cX7_contrary 70 = .ok (.iaload, 1) := by decide +kernel
theorem dX7_contrary_71 : decode cX7_contrary 71 = .ok (.if_icmp .ne 30, 3) := by decide +kernel
theorem dX7_contrary_74 : decode cX7_contrary 74 = .ok (.aload_n 0, 1) := by decide +kernel
theorem dX7_contrary_75 : decode cX7_contrary 75 = .ok (.getfield 7, 3) := by decide +kernel
theorem dX7_contrary_78 : decode cX7_contrary 78 = .ok (.iload_n 3, 1) := by decide +kernel
theorem dX7_contrary_79 : decode cX7_contrary 79 = .ok (.iconst 2, 1) := by decide +kernel
theorem dX7_contrary_80 : decode cX7_contrary 80 = .ok (.iadd, 1) := by decide +kernel
theorem dX7_contrary_81 : decode cX7_contrary 81 = .ok (.iaload, 1) := by decide +kernel
theorem dX7_contrary_82 : decode cX7_contrary 82 = .ok (.aload_n 0, 1) := by decide +kernel
theorem dX7_contrary_83 : decode cX7_contrary 83 = .ok (.getfield 7, 3) := by decide +kernel
theorem dX7_contrary_86 : decode cX7_contrary 86 = .ok (.iload 4, 2) := by decide +kernel
theorem dX7_contrary_88 : decode cX7_contrary 88 = .ok (.iconst 2, 1) := by decide +kernel
theorem dX7_contrary_89 : decode cX7_contrary 89 = .ok (.iadd, 1) := by decide +kernel
theorem dX7_contrary_90 : decode cX7_contrary 90 = .ok (.iaload, 1) := by decide +kernel
theorem dX7_contrary_91 : decode cX7_contrary 91 = .ok (.if_icmp .eq 10, 3) := by decide +kernel
theorem dX7_contrary_94 : decode cX7_contrary 94 = .ok (.bipush 30, 2) := by decide +kernel
theorem dX7_contrary_96 : decode cX7_contrary 96 = .ok (.iload_n 2, 1) := by decide +kernel
theorem dX7_contrary_97 : decode cX7_contrary 97 = .ok (.imul, 1) := by decide +kernel
theorem dX7_contrary_98 : decode cX7_contrary 98 = .ok (.iload_n 1, 1) := by decide +kernel
theorem dX7_contrary_99 : decode cX7_contrary 99 = .ok (.iadd, 1) := by decide +kernel
theorem dX7_contrary_100 : decode cX7_contrary 100 = .ok (.ireturn, 1) := by decide +kernel
theorem dX7_contrary_101 : decode cX7_contrary 101 = .ok (.iinc 2 1, 3) := by decide +kernel
theorem dX7_contrary_104 : decode cX7_contrary 104 = .ok (.goto (-88), 3) := by decide +kernel
theorem dX7_contrary_107 : decode cX7_contrary 107 = .ok (.iinc 1 1, 3) := by decide +kernel
theorem dX7_contrary_110 : decode cX7_contrary 110 = .ok (.goto (-108), 3) := by decide +kernel
theorem dX7_contrary_113 : decode cX7_contrary 113 = .ok (.iconst (-1), 1) := by decide +kernel
theorem dX7_contrary_114 : decode cX7_contrary 114 = .ok (.ireturn, 1) := by decide +kernel
theorem dX7_common_0 : decode cX7_common 0 = .ok (.lload_n 0, 1) := by decide +kernel
theorem dX7_common_1 : decode cX7_common 1 = .ok (.lstore 4, 2) := by decide +kernel
theorem dX7_common_3 : decode cX7_common 3 = .ok (.lload_n 2, 1) := by decide +kernel
theorem dX7_common_4 : decode cX7_common 4 = .ok (.lstore 6, 2) := by decide +kernel
theorem dX7_common_6 : decode cX7_common 6 = .ok (.lload 6, 2) := by decide +kernel
theorem dX7_common_8 : decode cX7_common 8 = .ok (.lconst 0, 1) := by decide +kernel
theorem dX7_common_9 : decode cX7_common 9 = .ok (.lcmp, 1) := by decide +kernel
theorem dX7_common_10 : decode cX7_common 10 = .ok (.ifCond .eq 21, 3) := by decide +kernel
theorem dX7_common_13 : decode cX7_common 13 = .ok (.lload 4, 2) := by decide +kernel
theorem dX7_common_15 : decode cX7_common 15 = .ok (.lload 6, 2) := by decide +kernel
theorem dX7_common_17 : decode cX7_common 17 = .ok (.lrem, 1) := by decide +kernel
theorem dX7_common_18 : decode cX7_common 18 = .ok (.lstore 8, 2) := by decide +kernel
theorem dX7_common_20 : decode cX7_common 20 = .ok (.lload 6, 2) := by decide +kernel
theorem dX7_common_22 : decode cX7_common 22 = .ok (.lstore 4, 2) := by decide +kernel
theorem dX7_common_24 : decode cX7_common 24 = .ok (.lload 8, 2) := by decide +kernel
theorem dX7_common_26 : decode cX7_common 26 = .ok (.lstore 6, 2) := by decide +kernel
theorem dX7_common_28 : decode cX7_common 28 = .ok (.goto (-22), 3) := by decide +kernel
theorem dX7_common_31 : decode cX7_common 31 = .ok (.lload 4, 2) := by decide +kernel
theorem dX7_common_33 : decode cX7_common 33 = .ok (.lreturn, 1) := by decide +kernel
theorem dX7_odds_0 : decode cX7_odds 0 = .ok (.iload_n 1, 1) := by decide +kernel
theorem dX7_odds_1 : decode cX7_odds 1 = .ok (.sipush (-9999), 3) := by decide +kernel
theorem dX7_odds_4 : decode cX7_odds 4 = .ok (.sipush 9999, 3) := by decide +kernel
theorem dX7_odds_7 : decode cX7_odds 7 = .ok (.invokestatic 110, 3) := by decide +kernel
theorem dX7_odds_10 : decode cX7_odds 10 = .ok (.ifCond .eq 13, 3) := by decide +kernel
theorem dX7_odds_13 : decode cX7_odds 13 = .ok (.iload_n 2, 1) := by decide +kernel
theorem dX7_odds_14 : decode cX7_odds 14 = .ok (.iconst 0, 1) := by decide +kernel
theorem dX7_odds_15 : decode cX7_odds 15 = .ok (.bipush 6, 2) := by decide +kernel
theorem dX7_odds_17 : decode cX7_odds 17 = .ok (.invokestatic 110, 3) := by decide +kernel
theorem dX7_odds_20 : decode cX7_odds 20 = .ok (.ifCond .ne 7, 3) := by decide +kernel
theorem dX7_odds_23 : decode cX7_odds 23 = .ok (.ldc2_w 397, 3) := by decide +kernel
theorem dX7_odds_26 : decode cX7_odds 26 = .ok (.lreturn, 1) := by decide +kernel
theorem dX7_odds_27 : decode cX7_odds 27 = .ok (.iconst 1, 1) := by decide +kernel
theorem dX7_odds_28 : decode cX7_odds 28 = .ok (.iconst 2, 1) := by decide +kernel
theorem dX7_odds_29 : decode cX7_odds 29 = .ok (.iload_n 2, 1) := by decide +kernel
theorem dX7_odds_30 : decode cX7_odds 30 = .ok (.imul, 1) := by decide +kernel
theorem dX7_odds_31 : decode cX7_odds 31 = .ok (.ishl, 1) := by decide +kernel
theorem dX7_odds_32 : decode cX7_odds 32 = .ok (.istore 4, 2) := by decide +kernel
theorem dX7_odds_34 : decode cX7_odds 34 = .ok (.iconst 0, 1) := by decide +kernel
theorem dX7_odds_35 : decode cX7_odds 35 = .ok (.istore 5, 2) := by decide +kernel
theorem dX7_odds_37 : decode cX7_odds 37 = .ok (.iconst 0, 1) := by decide +kernel
theorem dX7_odds_38 : decode cX7_odds 38 = .ok (.istore 6, 2) := by decide +kernel
theorem dX7_odds_40 : decode cX7_odds 40 = .ok (.iload 6, 2) := by decide +kernel
theorem dX7_odds_42 : decode cX7_odds 42 = .ok (.iload 4, 2) := by decide +kernel
theorem dX7_odds_44 : decode cX7_odds 44 = .ok (.if_icmp .ge 82, 3) := by decide +kernel
theorem dX7_odds_47 : decode cX7_odds 47 = .ok (.aload_n 0, 1) := by decide +kernel
theorem dX7_odds_48 : decode cX7_odds 48 = .ok (.invokevirtual 349, 3) := by decide +kernel
theorem dX7_odds_51 : decode cX7_odds 51 = .ok (.iconst 0, 1) := by decide +kernel
theorem dX7_odds_52 : decode cX7_odds 52 = .ok (.istore 7, 2) := by decide +kernel
theorem dX7_odds_54 : decode cX7_odds 54 = .ok (.iload 7, 2) := by decide +kernel
theorem dX7_odds_56 : decode cX7_odds 56 = .ok (.iload_n 2, 1) := by decide +kernel
theorem dX7_odds_57 : decode cX7_odds 57 = .ok (.if_icmp .ge 45, 3) := by decide +kernel
theorem dX7_odds_60 : decode cX7_odds 60 = .ok (.iload 6, 2) := by decide +kernel
theorem dX7_odds_62 : decode cX7_odds 62 = .ok (.iconst 2, 1) := by decide +kernel
theorem dX7_odds_63 : decode cX7_odds 63 = .ok (.iload 7, 2) := by decide +kernel
theorem dX7_odds_65 : decode cX7_odds 65 = .ok (.imul, 1) := by decide +kernel
theorem dX7_odds_66 : decode cX7_odds 66 = .ok (.ishr, 1) := by decide +kernel
theorem dX7_odds_67 : decode cX7_odds 67 = .ok (.iconst 3, 1) := by decide +kernel
theorem dX7_odds_68 : decode cX7_odds 68 = .ok (.iand, 1) := by decide +kernel
theorem dX7_odds_69 : decode cX7_odds 69 = .ok (.istore 8, 2) := by decide +kernel
theorem dX7_odds_71 : decode cX7_odds 71 = .ok (.aload_n 0, 1) := by decide +kernel
theorem dX7_odds_72 : decode cX7_odds 72 = .ok (.getfield 85, 3) := by decide +kernel
theorem dX7_odds_75 : decode cX7_odds 75 = .ok (.iload 8, 2) := by decide +kernel
theorem dX7_odds_77 : decode cX7_odds 77 = .ok (.dup2, 1) := by decide +kernel
theorem dX7_odds_78 : decode cX7_odds 78 = .ok (.iaload, 1) := by decide +kernel
theorem dX7_odds_79 : decode cX7_odds 79 = .ok (.aload_n 0, 1) := by decide +kernel
theorem dX7_odds_80 : decode cX7_odds 80 = .ok (.getfield 85, 3) := by decide +kernel
theorem dX7_odds_83 : decode cX7_odds 83 = .ok (.iload 8, 2) := by decide +kernel
theorem dX7_odds_85 : decode cX7_odds 85 = .ok (.iaload, 1) := by decide +kernel
theorem dX7_odds_86 : decode cX7_odds 86 = .ok (.ifCond .le 7, 3) := by decide +kernel
theorem dX7_odds_89 : decode cX7_odds 89 = .ok (.iconst 1, 1) := by decide +kernel
theorem dX7_odds_90 : decode cX7_odds 90 = .ok (.goto 4, 3) := by decide +kernel
theorem dX7_odds_93 : decode cX7_odds 93 = .ok (.iconst 0, 1) := by decide +kernel
theorem dX7_odds_94 : decode cX7_odds 94 = .ok (.isub, 1) := by decide +kernel
theorem dX7_odds_95 : decode cX7_odds 95 = .ok (.iastore, 1) := by decide +kernel
theorem dX7_odds_96 : decode cX7_odds 96 = .ok (.iinc 7 1, 3) := by decide +kernel
theorem dX7_odds_99 : decode cX7_odds 99 = .ok (.goto (-45), 3) := by decide +kernel
theorem dX7_odds_102 : decode cX7_odds 102 = .ok (.iload 5, 2) := by decide +kernel
theorem dX7_odds_104 : decode cX7_odds 104 = .ok (.aload_n 0, 1) := by decide +kernel
theorem dX7_odds_105 : decode cX7_odds 105 = .ok (.invokevirtual 340, 3) := by decide +kernel
theorem dX7_odds_108 : decode cX7_odds 108 = .ok (.iload_n 1, 1) := by decide +kernel
theorem dX7_odds_109 : decode cX7_odds 109 = .ok (.if_icmp .ne 7, 3) := by decide +kernel
theorem dX7_odds_112 : decode cX7_odds 112 = .ok (.iconst 1, 1) := by decide +kernel
theorem dX7_odds_113 : decode cX7_odds 113 = .ok (.goto 4, 3) := by decide +kernel
theorem dX7_odds_116 : decode cX7_odds 116 = .ok (.iconst 0, 1) := by decide +kernel
theorem dX7_odds_117 : decode cX7_odds 117 = .ok (.iadd, 1) := by decide +kernel
theorem dX7_odds_118 : decode cX7_odds 118 = .ok (.istore 5, 2) := by decide +kernel
theorem dX7_odds_120 : decode cX7_odds 120 = .ok (.iinc 6 1, 3) := by decide +kernel
theorem dX7_odds_123 : decode cX7_odds 123 = .ok (.goto (-83), 3) := by decide +kernel
theorem dX7_odds_126 : decode cX7_odds 126 = .ok (.iload 4, 2) := by decide +kernel
theorem dX7_odds_128 : decode cX7_odds 128 = .ok (.i2l, 1) := by decide +kernel
theorem dX7_odds_129 : decode cX7_odds 129 = .ok (.iload 5, 2) := by decide +kernel
theorem dX7_odds_131 : decode cX7_odds 131 = .ok (.i2l, 1) := by decide +kernel
theorem dX7_odds_132 : decode cX7_odds 132 = .ok (.invokestatic 399, 3) := by decide +kernel
theorem dX7_odds_135 : decode cX7_odds 135 = .ok (.lstore 6, 2) := by decide +kernel
theorem dX7_odds_137 : decode cX7_odds 137 = .ok (.iload_n 3, 1) := by decide +kernel
theorem dX7_odds_138 : decode cX7_odds 138 = .ok (.ifCond .eq 12, 3) := by decide +kernel
theorem dX7_odds_141 : decode cX7_odds 141 = .ok (.iload 4, 2) := by decide +kernel
theorem dX7_odds_143 : decode cX7_odds 143 = .ok (.i2l, 1) := by decide +kernel
theorem dX7_odds_144 : decode cX7_odds 144 = .ok (.lload 6, 2) := by decide +kernel
theorem dX7_odds_146 : decode cX7_odds 146 = .ok (.ldiv, 1) := by decide +kernel
theorem dX7_odds_147 : decode cX7_odds 147 = .ok (.goto 9, 3) := by decide +kernel
theorem dX7_odds_150 : decode cX7_odds 150 = .ok (.iload 5, 2) := by decide +kernel
theorem dX7_odds_152 : decode cX7_odds 152 = .ok (.i2l, 1) := by decide +kernel
theorem dX7_odds_153 : decode cX7_odds 153 = .ok (.lload 6, 2) := by decide +kernel
theorem dX7_odds_155 : decode cX7_odds 155 = .ok (.ldiv, 1) := by decide +kernel
theorem dX7_odds_156 : decode cX7_odds 156 = .ok (.lreturn, 1) := by decide +kernel
theorem dX7_tell_0 : decode cX7_tell 0 = .ok (.iload_n 1, 1) := by decide +kernel
theorem dX7_tell_1 : decode cX7_tell 1 = .ok (.iconst (-1), 1) := by decide +kernel
theorem dX7_tell_2 : decode cX7_tell 2 = .ok (.if_icmp .ne 12, 3) := by decide +kernel
theorem dX7_tell_5 : decode cX7_tell 5 = .ok (.aload_n 0, 1) := by decide +kernel
theorem dX7_tell_6 : decode cX7_tell 6 = .ok (.getfield 7, 3) := by decide +kernel
theorem dX7_tell_9 : decode cX7_tell 9 = .ok (.iconst 5, 1) := by decide +kernel
theorem dX7_tell_10 : decode cX7_tell 10 = .ok (.iconst 0, 1) := by decide +kernel
theorem dX7_tell_11 : decode cX7_tell 11 = .ok (.iastore, 1) := by decide +kernel
theorem dX7_tell_12 : decode cX7_tell 12 = .ok (.iconst 0, 1) := by decide +kernel
theorem dX7_tell_13 : decode cX7_tell 13 = .ok (.ireturn, 1) := by decide +kernel
theorem dX7_tell_14 : decode cX7_tell 14 = .ok (.aload_n 0, 1) := by decide +kernel
theorem dX7_tell_15 : decode cX7_tell 15 = .ok (.iload_n 1, 1) := by decide +kernel
theorem dX7_tell_16 : decode cX7_tell 16 = .ok (.invokevirtual 343, 3) := by decide +kernel
theorem dX7_tell_19 : decode cX7_tell 19 = .ok (.ifCond .eq 25, 3) := by decide +kernel
theorem dX7_tell_22 : decode cX7_tell 22 = .ok (.iload_n 2, 1) := by decide +kernel
theorem dX7_tell_23 : decode cX7_tell 23 = .ok (.iconst 1, 1) := by decide +kernel
theorem dX7_tell_24 : decode cX7_tell 24 = .ok (.sipush 999, 3) := by decide +kernel
theorem dX7_tell_27 : decode cX7_tell 27 = .ok (.invokestatic 110, 3) := by decide +kernel
theorem dX7_tell_30 : decode cX7_tell 30 = .ok (.ifCond .eq 14, 3) := by decide +kernel
theorem dX7_tell_33 : decode cX7_tell 33 = .ok (.aload_n 0, 1) := by decide +kernel
theorem dX7_tell_34 : decode cX7_tell 34 = .ok (.getfield 7, 3) := by decide +kernel
theorem dX7_tell_37 : decode cX7_tell 37 = .ok (.iconst 5, 1) := by decide +kernel
theorem dX7_tell_38 : decode cX7_tell 38 = .ok (.iaload, 1) := by decide +kernel
theorem dX7_tell_39 : decode cX7_tell 39 = .ok (.bipush 20, 2) := by decide +kernel
theorem dX7_tell_41 : decode cX7_tell 41 = .ok (.if_icmp .ne 6, 3) := by decide +kernel
theorem dX7_tell_44 : decode cX7_tell 44 = .ok (.bipush (-2), 2) := by decide +kernel
theorem dX7_tell_46 : decode cX7_tell 46 = .ok (.ireturn, 1) := by decide +kernel
theorem dX7_tell_47 : decode cX7_tell 47 = .ok (.aload_n 0, 1) := by decide +kernel
theorem dX7_tell_48 : decode cX7_tell 48 = .ok (.getfield 7, 3) := by decide +kernel
theorem dX7_tell_51 : decode cX7_tell 51 = .ok (.bipush 64, 2) := by decide +kernel
theorem dX7_tell_53 : decode cX7_tell 53 = .ok (.iconst 2, 1) := by decide +kernel
theorem dX7_tell_54 : decode cX7_tell 54 = .ok (.aload_n 0, 1) := by decide +kernel
theorem dX7_tell_55 : decode cX7_tell 55 = .ok (.getfield 7, 3) := by decide +kernel
theorem dX7_tell_58 : decode cX7_tell 58 = .ok (.iconst 5, 1) := by decide +kernel
theorem dX7_tell_59 : decode cX7_tell 59 = .ok (.iaload, 1) := by decide +kernel
theorem dX7_tell_60 : decode cX7_tell 60 = .ok (.imul, 1) := by decide +kernel
theorem dX7_tell_61 : decode cX7_tell 61 = .ok (.iadd, 1) := by decide +kernel
theorem dX7_tell_62 : decode cX7_tell 62 = .ok (.iload_n 1, 1) := by decide +kernel
theorem dX7_tell_63 : decode cX7_tell 63 = .ok (.iastore, 1) := by decide +kernel
theorem dX7_tell_64 : decode cX7_tell 64 = .ok (.aload_n 0, 1) := by decide +kernel
theorem dX7_tell_65 : decode cX7_tell 65 = .ok (.getfield 7, 3) := by decide +kernel
theorem dX7_tell_68 : decode cX7_tell 68 = .ok (.bipush 64, 2) := by decide +kernel
theorem dX7_tell_70 : decode cX7_tell 70 = .ok (.iconst 2, 1) := by decide +kernel
theorem dX7_tell_71 : decode cX7_tell 71 = .ok (.aload_n 0, 1) := by decide +kernel
theorem dX7_tell_72 : decode cX7_tell 72 = .ok (.getfield 7, 3) := by decide +kernel
theorem dX7_tell_75 : decode cX7_tell 75 = .ok (.iconst 5, 1) := by decide +kernel
theorem dX7_tell_76 : decode cX7_tell 76 = .ok (.iaload, 1) := by decide +kernel
theorem dX7_tell_77 : decode cX7_tell 77 = .ok (.imul, 1) := by decide +kernel
theorem dX7_tell_78 : decode cX7_tell 78 = .ok (.iadd, 1) := by decide +kernel
theorem dX7_tell_79 : decode cX7_tell 79 = .ok (.iconst 1, 1) := by decide +kernel
theorem dX7_tell_80 : decode cX7_tell 80 = .ok (.iadd, 1) := by decide +kernel
theorem dX7_tell_81 : decode cX7_tell 81 = .ok (.iload_n 2, 1) := by decide +kernel
theorem dX7_tell_82 : decode cX7_tell 82 = .ok (.iastore, 1) := by decide +kernel
theorem dX7_tell_83 : decode cX7_tell 83 = .ok (.aload_n 0, 1) := by decide +kernel
theorem dX7_tell_84 : decode cX7_tell 84 = .ok (.getfield 7, 3) := by decide +kernel
theorem dX7_tell_87 : decode cX7_tell 87 = .ok (.iconst 5, 1) := by decide +kernel
theorem dX7_tell_88 : decode cX7_tell 88 = .ok (.dup2, 1) := by decide +kernel
theorem dX7_tell_89 : decode cX7_tell 89 = .ok (.iaload, 1) := by decide +kernel
theorem dX7_tell_90 : decode cX7_tell 90 = .ok (.iconst 1, 1) := by decide +kernel
theorem dX7_tell_91 : decode cX7_tell 91 = .ok (.iadd, 1) := by decide +kernel
theorem dX7_tell_92 : decode cX7_tell 92 = .ok (.iastore, 1) := by decide +kernel
theorem dX7_tell_93 : decode cX7_tell 93 = .ok (.aload_n 0, 1) := by decide +kernel
theorem dX7_tell_94 : decode cX7_tell 94 = .ok (.getfield 7, 3) := by decide +kernel
theorem dX7_tell_97 : decode cX7_tell 97 = .ok (.iconst 5, 1) := by decide +kernel
theorem dX7_tell_98 : decode cX7_tell 98 = .ok (.iaload, 1) := by decide +kernel
theorem dX7_tell_99 : decode cX7_tell 99 = .ok (.ireturn, 1) := by decide +kernel
theorem dX7_toldMore_0 : decode cX7_toldMore 0 = .ok (.aload_n 0, 1) := by decide +kernel
theorem dX7_toldMore_1 : decode cX7_toldMore 1 = .ok (.getfield 7, 3) := by decide +kernel
theorem dX7_toldMore_4 : decode cX7_toldMore 4 = .ok (.bipush 123, 2) := by decide +kernel
theorem dX7_toldMore_6 : decode cX7_toldMore 6 = .ok (.iload_n 1, 1) := by decide +kernel
theorem dX7_toldMore_7 : decode cX7_toldMore 7 = .ok (.iadd, 1) := by decide +kernel
theorem dX7_toldMore_8 : decode cX7_toldMore 8 = .ok (.iaload, 1) := by decide +kernel
theorem dX7_toldMore_9 : decode cX7_toldMore 9 = .ok (.ineg, 1) := by decide +kernel
theorem dX7_toldMore_10 : decode cX7_toldMore 10 = .ok (.istore_n 2, 1) := by decide +kernel
theorem dX7_toldMore_11 : decode cX7_toldMore 11 = .ok (.iconst 0, 1) := by decide +kernel
theorem dX7_toldMore_12 : decode cX7_toldMore 12 = .ok (.istore_n 3, 1) := by decide +kernel
theorem dX7_toldMore_13 : decode cX7_toldMore 13 = .ok (.iload_n 3, 1) := by decide +kernel
theorem dX7_toldMore_14 : decode cX7_toldMore 14 = .ok (.aload_n 0, 1) := by decide +kernel
theorem dX7_toldMore_15 : decode cX7_toldMore 15 = .ok (.getfield 7, 3) := by decide +kernel
theorem dX7_toldMore_18 : decode cX7_toldMore 18 = .ok (.iconst 5, 1) := by decide +kernel
theorem dX7_toldMore_19 : decode cX7_toldMore 19 = .ok (.iaload, 1) := by decide +kernel
theorem dX7_toldMore_20 : decode cX7_toldMore 20 = .ok (.if_icmp .ge 44, 3) := by decide +kernel
theorem dX7_toldMore_23 : decode cX7_toldMore 23 = .ok (.iload_n 2, 1) := by decide +kernel
theorem dX7_toldMore_24 : decode cX7_toldMore 24 = .ok (.aload_n 0, 1) := by decide +kernel
theorem dX7_toldMore_25 : decode cX7_toldMore 25 = .ok (.getfield 7, 3) := by decide +kernel
theorem dX7_toldMore_28 : decode cX7_toldMore 28 = .ok (.bipush 64, 2) := by decide +kernel
theorem dX7_toldMore_30 : decode cX7_toldMore 30 = .ok (.iconst 2, 1) := by decide +kernel
theorem dX7_toldMore_31 : decode cX7_toldMore 31 = .ok (.iload_n 3, 1) := by decide +kernel
theorem dX7_toldMore_32 : decode cX7_toldMore 32 = .ok (.imul, 1) := by decide +kernel
theorem dX7_toldMore_33 : decode cX7_toldMore 33 = .ok (.iadd, 1) := by decide +kernel
theorem dX7_toldMore_34 : decode cX7_toldMore 34 = .ok (.iaload, 1) := by decide +kernel
theorem dX7_toldMore_35 : decode cX7_toldMore 35 = .ok (.iload_n 1, 1) := by decide +kernel
theorem dX7_toldMore_36 : decode cX7_toldMore 36 = .ok (.if_icmp .ne 19, 3) := by decide +kernel
theorem dX7_toldMore_39 : decode cX7_toldMore 39 = .ok (.aload_n 0, 1) := by decide +kernel
theorem dX7_toldMore_40 : decode cX7_toldMore 40 = .ok (.getfield 7, 3) := by decide +kernel
theorem dX7_toldMore_43 : decode cX7_toldMore 43 = .ok (.bipush 64, 2) := by decide +kernel
theorem dX7_toldMore_45 : decode cX7_toldMore 45 = .ok (.iconst 2, 1) := by decide +kernel
theorem dX7_toldMore_46 : decode cX7_toldMore 46 = .ok (.iload_n 3, 1) := by decide +kernel
theorem dX7_toldMore_47 : decode cX7_toldMore 47 = .ok (.imul, 1) := by decide +kernel
theorem dX7_toldMore_48 : decode cX7_toldMore 48 = .ok (.iadd, 1) := by decide +kernel
theorem dX7_toldMore_49 : decode cX7_toldMore 49 = .ok (.iconst 1, 1) := by decide +kernel
theorem dX7_toldMore_50 : decode cX7_toldMore 50 = .ok (.iadd, 1) := by decide +kernel
theorem dX7_toldMore_51 : decode cX7_toldMore 51 = .ok (.iaload, 1) := by decide +kernel
theorem dX7_toldMore_52 : decode cX7_toldMore 52 = .ok (.goto 4, 3) := by decide +kernel
theorem dX7_toldMore_55 : decode cX7_toldMore 55 = .ok (.iconst 0, 1) := by decide +kernel
theorem dX7_toldMore_56 : decode cX7_toldMore 56 = .ok (.iadd, 1) := by decide +kernel
theorem dX7_toldMore_57 : decode cX7_toldMore 57 = .ok (.istore_n 2, 1) := by decide +kernel
theorem dX7_toldMore_58 : decode cX7_toldMore 58 = .ok (.iinc 3 1, 3) := by decide +kernel
theorem dX7_toldMore_61 : decode cX7_toldMore 61 = .ok (.goto (-48), 3) := by decide +kernel
theorem dX7_toldMore_64 : decode cX7_toldMore 64 = .ok (.iload_n 2, 1) := by decide +kernel
theorem dX7_toldMore_65 : decode cX7_toldMore 65 = .ok (.ireturn, 1) := by decide +kernel
theorem dX7_liars_0 : decode cX7_liars 0 = .ok (.iconst 0, 1) := by decide +kernel
theorem dX7_liars_1 : decode cX7_liars 1 = .ok (.istore_n 1, 1) := by decide +kernel
theorem dX7_liars_2 : decode cX7_liars 2 = .ok (.iconst 0, 1) := by decide +kernel
theorem dX7_liars_3 : decode cX7_liars 3 = .ok (.istore_n 2, 1) := by decide +kernel
theorem dX7_liars_4 : decode cX7_liars 4 = .ok (.iload_n 2, 1) := by decide +kernel
theorem dX7_liars_5 : decode cX7_liars 5 = .ok (.aload_n 0, 1) := by decide +kernel
theorem dX7_liars_6 : decode cX7_liars 6 = .ok (.getfield 7, 3) := by decide +kernel
theorem dX7_liars_9 : decode cX7_liars 9 = .ok (.iconst 0, 1) := by decide +kernel
theorem dX7_liars_10 : decode cX7_liars 10 = .ok (.iaload, 1) := by decide +kernel
theorem dX7_liars_11 : decode cX7_liars 11 = .ok (.if_icmp .ge 27, 3) := by decide +kernel
theorem dX7_liars_14 : decode cX7_liars 14 = .ok (.iload_n 1, 1) := by decide +kernel
theorem dX7_liars_15 : decode cX7_liars 15 = .ok (.aload_n 0, 1) := by decide +kernel
theorem dX7_liars_16 : decode cX7_liars 16 = .ok (.iload_n 2, 1) := by decide +kernel
theorem dX7_liars_17 : decode cX7_liars 17 = .ok (.invokevirtual 403, 3) := by decide +kernel
theorem dX7_liars_20 : decode cX7_liars 20 = .ok (.ifCond .ne 7, 3) := by decide +kernel
theorem dX7_liars_23 : decode cX7_liars 23 = .ok (.iconst 0, 1) := by decide +kernel
theorem dX7_liars_24 : decode cX7_liars 24 = .ok (.goto 6, 3) := by decide +kernel
theorem dX7_liars_27 : decode cX7_liars 27 = .ok (.iconst 1, 1) := by decide +kernel
theorem dX7_liars_28 : decode cX7_liars 28 = .ok (.iload_n 2, 1) := by decide +kernel
theorem dX7_liars_29 : decode cX7_liars 29 = .ok (.ishl, 1) := by decide +kernel
theorem dX7_liars_30 : decode cX7_liars 30 = .ok (.ior, 1) := by decide +kernel
theorem dX7_liars_31 : decode cX7_liars 31 = .ok (.istore_n 1, 1) := by decide +kernel
theorem dX7_liars_32 : decode cX7_liars 32 = .ok (.iinc 2 1, 3) := by decide +kernel
theorem dX7_liars_35 : decode cX7_liars 35 = .ok (.goto (-31), 3) := by decide +kernel
theorem dX7_liars_38 : decode cX7_liars 38 = .ok (.iload_n 1, 1) := by decide +kernel
theorem dX7_liars_39 : decode cX7_liars 39 = .ok (.ireturn, 1) := by decide +kernel
theorem dX7_inWhoseName_0 : decode cX7_inWhoseName 0 = .ok (.aload_n 0, 1) := by decide +kernel
theorem dX7_inWhoseName_1 : decode cX7_inWhoseName 1 = .ok (.iload_n 1, 1) := by decide +kernel
theorem dX7_inWhoseName_2 : decode cX7_inWhoseName 2 = .ok (.invokevirtual 343, 3) := by decide +kernel
theorem dX7_inWhoseName_5 : decode cX7_inWhoseName 5 = .ok (.ifCond .eq 11, 3) := by decide +kernel
theorem dX7_inWhoseName_8 : decode cX7_inWhoseName 8 = .ok (.aload_n 0, 1) := by decide +kernel
theorem dX7_inWhoseName_9 : decode cX7_inWhoseName 9 = .ok (.iload_n 1, 1) := by decide +kernel
theorem dX7_inWhoseName_10 : decode cX7_inWhoseName 10 = .ok (.invokevirtual 403, 3) := by decide +kernel
theorem dX7_inWhoseName_13 : decode cX7_inWhoseName 13 = .ok (.ifCond .lt 5, 3) := by decide +kernel
theorem dX7_inWhoseName_16 : decode cX7_inWhoseName 16 = .ok (.iconst (-1), 1) := by decide +kernel
theorem dX7_inWhoseName_17 : decode cX7_inWhoseName 17 = .ok (.ireturn, 1) := by decide +kernel
theorem dX7_inWhoseName_18 : decode cX7_inWhoseName 18 = .ok (.iconst 0, 1) := by decide +kernel
theorem dX7_inWhoseName_19 : decode cX7_inWhoseName 19 = .ok (.istore_n 2, 1) := by decide +kernel
theorem dX7_inWhoseName_20 : decode cX7_inWhoseName 20 = .ok (.iload_n 2, 1) := by decide +kernel
theorem dX7_inWhoseName_21 : decode cX7_inWhoseName 21 = .ok (.aload_n 0, 1) := by decide +kernel
theorem dX7_inWhoseName_22 : decode cX7_inWhoseName 22 = .ok (.getfield 7, 3) := by decide +kernel
theorem dX7_inWhoseName_25 : decode cX7_inWhoseName 25 = .ok (.iconst 0, 1) := by decide +kernel
theorem dX7_inWhoseName_26 : decode cX7_inWhoseName 26 = .ok (.iaload, 1) := by decide +kernel
theorem dX7_inWhoseName_27 : decode cX7_inWhoseName 27 = .ok (.if_icmp .ge 30, 3) := by decide +kernel
theorem dX7_inWhoseName_30 : decode cX7_inWhoseName 30 = .ok (.iload_n 2, 1) := by decide +kernel
theorem dX7_inWhoseName_31 : decode cX7_inWhoseName 31 = .ok (.iload_n 1, 1) := by decide +kernel
theorem dX7_inWhoseName_32 : decode cX7_inWhoseName 32 = .ok (.if_icmp .eq 19, 3) := by decide +kernel
theorem dX7_inWhoseName_35 : decode cX7_inWhoseName 35 = .ok (.aload_n 0, 1) := by decide +kernel
theorem dX7_inWhoseName_36 : decode cX7_inWhoseName 36 = .ok (.iload_n 2, 1) := by decide +kernel
theorem dX7_inWhoseName_37 : decode cX7_inWhoseName 37 = .ok (.invokevirtual 403, 3) := by decide +kernel
theorem dX7_inWhoseName_40 : decode cX7_inWhoseName 40 = .ok (.aload_n 0, 1) := by decide +kernel
theorem dX7_inWhoseName_41 : decode cX7_inWhoseName 41 = .ok (.iload_n 1, 1) := by decide +kernel
theorem dX7_inWhoseName_42 : decode cX7_inWhoseName 42 = .ok (.invokevirtual 403, 3) := by decide +kernel
theorem dX7_inWhoseName_45 : decode cX7_inWhoseName 45 = .ok (.ineg, 1) := by decide +kernel
theorem dX7_inWhoseName_46 : decode cX7_inWhoseName 46 = .ok (.if_icmp .ne 5, 3) := by decide +kernel
theorem dX7_inWhoseName_49 : decode cX7_inWhoseName 49 = .ok (.iload_n 2, 1) := by decide +kernel
theorem dX7_inWhoseName_50 : decode cX7_inWhoseName 50 = .ok (.ireturn, 1) := by decide +kernel
theorem dX7_inWhoseName_51 : decode cX7_inWhoseName 51 = .ok (.iinc 2 1, 3) := by decide +kernel
theorem dX7_inWhoseName_54 : decode cX7_inWhoseName 54 = .ok (.goto (-34), 3) := by decide +kernel
theorem dX7_inWhoseName_57 : decode cX7_inWhoseName 57 = .ok (.iconst (-1), 1) := by decide +kernel
theorem dX7_inWhoseName_58 : decode cX7_inWhoseName 58 = .ok (.ireturn, 1) := by decide +kernel
theorem dX7_image_0 : decode cX7_image 0 = .ok (.aload_n 0, 1) := by decide +kernel
theorem dX7_image_1 : decode cX7_image 1 = .ok (.iconst 1, 1) := by decide +kernel
theorem dX7_image_2 : decode cX7_image 2 = .ok (.invokevirtual 106, 3) := by decide +kernel
theorem dX7_image_5 : decode cX7_image 5 = .ok (.aload_n 0, 1) := by decide +kernel
theorem dX7_image_6 : decode cX7_image 6 = .ok (.getfield 7, 3) := by decide +kernel
theorem dX7_image_9 : decode cX7_image 9 = .ok (.sipush 132, 3) := by decide +kernel
theorem dX7_image_12 : decode cX7_image 12 = .ok (.iaload, 1) := by decide +kernel
theorem dX7_image_13 : decode cX7_image 13 = .ok (.ireturn, 1) := by decide +kernel
theorem dX7_back_0 : decode cX7_back 0 = .ok (.aload_n 0, 1) := by decide +kernel
theorem dX7_back_1 : decode cX7_back 1 = .ok (.iconst 0, 1) := by decide +kernel
theorem dX7_back_2 : decode cX7_back 2 = .ok (.invokevirtual 106, 3) := by decide +kernel
theorem dX7_back_5 : decode cX7_back 5 = .ok (.aload_n 0, 1) := by decide +kernel
theorem dX7_back_6 : decode cX7_back 6 = .ok (.getfield 7, 3) := by decide +kernel
theorem dX7_back_9 : decode cX7_back 9 = .ok (.sipush 132, 3) := by decide +kernel
theorem dX7_back_12 : decode cX7_back 12 = .ok (.iaload, 1) := by decide +kernel
theorem dX7_back_13 : decode cX7_back 13 = .ok (.ireturn, 1) := by decide +kernel
theorem dX7_about_0 : decode cX7_about 0 = .ok (.iload_n 1, 1) := by decide +kernel
theorem dX7_about_1 : decode cX7_about 1 = .ok (.tableswitch 156 0 9 #[55, 62, 98, 107, 116, 123, 130, 137, 144, 151], 55) := by decide +kernel
theorem dX7_about_56 : decode cX7_about 56 = .ok (.aload_n 0, 1) := by decide +kernel
theorem dX7_about_57 : decode cX7_about 57 = .ok (.getfield 7, 3) := by decide +kernel
theorem dX7_about_60 : decode cX7_about 60 = .ok (.iconst 0, 1) := by decide +kernel
theorem dX7_about_61 : decode cX7_about 61 = .ok (.iaload, 1) := by decide +kernel
theorem dX7_about_62 : decode cX7_about 62 = .ok (.ireturn, 1) := by decide +kernel
theorem dX7_about_63 : decode cX7_about 63 = .ok (.aload_n 0, 1) := by decide +kernel
theorem dX7_about_64 : decode cX7_about 64 = .ok (.getfield 7, 3) := by decide +kernel
theorem dX7_about_67 : decode cX7_about 67 = .ok (.bipush 110, 2) := by decide +kernel
theorem dX7_about_69 : decode cX7_about 69 = .ok (.iaload, 1) := by decide +kernel
theorem dX7_about_70 : decode cX7_about 70 = .ok (.aload_n 0, 1) := by decide +kernel
theorem dX7_about_71 : decode cX7_about 71 = .ok (.getfield 7, 3) := by decide +kernel
theorem dX7_about_74 : decode cX7_about 74 = .ok (.bipush 111, 2) := by decide +kernel
theorem dX7_about_76 : decode cX7_about 76 = .ok (.iaload, 1) := by decide +kernel
theorem dX7_about_77 : decode cX7_about 77 = .ok (.iadd, 1) := by decide +kernel
theorem dX7_about_78 : decode cX7_about 78 = .ok (.aload_n 0, 1) := by decide +kernel
theorem dX7_about_79 : decode cX7_about 79 = .ok (.getfield 7, 3) := by decide +kernel
theorem dX7_about_82 : decode cX7_about 82 = .ok (.bipush 112, 2) := by decide +kernel
theorem dX7_about_84 : decode cX7_about 84 = .ok (.iaload, 1) := by decide +kernel
theorem dX7_about_85 : decode cX7_about 85 = .ok (.isub, 1) := by decide +kernel
theorem dX7_about_86 : decode cX7_about 86 = .ok (.aload_n 0, 1) := by decide +kernel
theorem dX7_about_87 : decode cX7_about 87 = .ok (.getfield 7, 3) := by decide +kernel
theorem dX7_about_90 : decode cX7_about 90 = .ok (.bipush 113, 2) := by decide +kernel
theorem dX7_about_92 : decode cX7_about 92 = .ok (.iaload, 1) := by decide +kernel
theorem dX7_about_93 : decode cX7_about 93 = .ok (.isub, 1) := by decide +kernel
theorem dX7_about_94 : decode cX7_about 94 = .ok (.sipush 10000, 3) := by decide +kernel
theorem dX7_about_97 : decode cX7_about 97 = .ok (.iadd, 1) := by decide +kernel
theorem dX7_about_98 : decode cX7_about 98 = .ok (.ireturn, 1) := by decide +kernel
theorem dX7_about_99 : decode cX7_about 99 = .ok (.aload_n 0, 1) := by decide +kernel
theorem dX7_about_100 : decode cX7_about 100 = .ok (.getfield 7, 3) := by decide +kernel
theorem dX7_about_103 : decode cX7_about 103 = .ok (.sipush 373, 3) := by decide +kernel
theorem dX7_about_106 : decode cX7_about 106 = .ok (.iaload, 1) := by decide +kernel
theorem dX7_about_107 : decode cX7_about 107 = .ok (.ireturn, 1) := by decide +kernel
theorem dX7_about_108 : decode cX7_about 108 = .ok (.aload_n 0, 1) := by decide +kernel
theorem dX7_about_109 : decode cX7_about 109 = .ok (.getfield 7, 3) := by decide +kernel
theorem dX7_about_112 : decode cX7_about 112 = .ok (.sipush 464, 3) := by decide +kernel
theorem dX7_about_115 : decode cX7_about 115 = .ok (.iaload, 1) := by decide +kernel
theorem dX7_about_116 : decode cX7_about 116 = .ok (.ireturn, 1) := by decide +kernel
theorem dX7_about_117 : decode cX7_about 117 = .ok (.aload_n 0, 1) := by decide +kernel
theorem dX7_about_118 : decode cX7_about 118 = .ok (.getfield 7, 3) := by decide +kernel
theorem dX7_about_121 : decode cX7_about 121 = .ok (.iconst 1, 1) := by decide +kernel
theorem dX7_about_122 : decode cX7_about 122 = .ok (.iaload, 1) := by decide +kernel
theorem dX7_about_123 : decode cX7_about 123 = .ok (.ireturn, 1) := by decide +kernel
theorem dX7_about_124 : decode cX7_about 124 = .ok (.aload_n 0, 1) := by decide +kernel
theorem dX7_about_125 : decode cX7_about 125 = .ok (.getfield 7, 3) := by decide +kernel
theorem dX7_about_128 : decode cX7_about 128 = .ok (.iconst 2, 1) := by decide +kernel
theorem dX7_about_129 : decode cX7_about 129 = .ok (.iaload, 1) := by decide +kernel
theorem dX7_about_130 : decode cX7_about 130 = .ok (.ireturn, 1) := by decide +kernel
theorem dX7_about_131 : decode cX7_about 131 = .ok (.aload_n 0, 1) := by decide +kernel
theorem dX7_about_132 : decode cX7_about 132 = .ok (.getfield 7, 3) := by decide +kernel
theorem dX7_about_135 : decode cX7_about 135 = .ok (.iconst 3, 1) := by decide +kernel
theorem dX7_about_136 : decode cX7_about 136 = .ok (.iaload, 1) := by decide +kernel
theorem dX7_about_137 : decode cX7_about 137 = .ok (.ireturn, 1) := by decide +kernel
theorem dX7_about_138 : decode cX7_about 138 = .ok (.aload_n 0, 1) := by decide +kernel
theorem dX7_about_139 : decode cX7_about 139 = .ok (.getfield 7, 3) := by decide +kernel
theorem dX7_about_142 : decode cX7_about 142 = .ok (.iconst 4, 1) := by decide +kernel
theorem dX7_about_143 : decode cX7_about 143 = .ok (.iaload, 1) := by decide +kernel
theorem dX7_about_144 : decode cX7_about 144 = .ok (.ireturn, 1) := by decide +kernel
theorem dX7_about_145 : decode cX7_about 145 = .ok (.aload_n 0, 1) := by decide +kernel
theorem dX7_about_146 : decode cX7_about 146 = .ok (.getfield 7, 3) := by decide +kernel
theorem dX7_about_149 : decode cX7_about 149 = .ok (.iconst 5, 1) := by decide +kernel
theorem dX7_about_150 : decode cX7_about 150 = .ok (.iaload, 1) := by decide +kernel
theorem dX7_about_151 : decode cX7_about 151 = .ok (.ireturn, 1) := by decide +kernel
theorem dX7_about_152 : decode cX7_about 152 = .ok (.aload_n 0, 1) := by decide +kernel
theorem dX7_about_153 : decode cX7_about 153 = .ok (.getfield 118, 3) := by decide +kernel
theorem dX7_about_156 : decode cX7_about 156 = .ok (.ireturn, 1) := by decide +kernel
theorem dX7_about_157 : decode cX7_about 157 = .ok (.iload_n 1, 1) := by decide +kernel
theorem dX7_about_158 : decode cX7_about 158 = .ok (.bipush 10, 2) := by decide +kernel
theorem dX7_about_160 : decode cX7_about 160 = .ok (.bipush 13, 2) := by decide +kernel
theorem dX7_about_162 : decode cX7_about 162 = .ok (.invokestatic 110, 3) := by decide +kernel
theorem dX7_about_165 : decode cX7_about 165 = .ok (.ifCond .eq 18, 3) := by decide +kernel
theorem dX7_about_168 : decode cX7_about 168 = .ok (.aload_n 0, 1) := by decide +kernel
theorem dX7_about_169 : decode cX7_about 169 = .ok (.getfield 7, 3) := by decide +kernel
theorem dX7_about_172 : decode cX7_about 172 = .ok (.bipush 110, 2) := by decide +kernel
theorem dX7_about_174 : decode cX7_about 174 = .ok (.iload_n 1, 1) := by decide +kernel
theorem dX7_about_175 : decode cX7_about 175 = .ok (.iadd, 1) := by decide +kernel
theorem dX7_about_176 : decode cX7_about 176 = .ok (.bipush 10, 2) := by decide +kernel
theorem dX7_about_178 : decode cX7_about 178 = .ok (.isub, 1) := by decide +kernel
theorem dX7_about_179 : decode cX7_about 179 = .ok (.iaload, 1) := by decide +kernel
theorem dX7_about_180 : decode cX7_about 180 = .ok (.goto 5, 3) := by decide +kernel
theorem dX7_about_183 : decode cX7_about 183 = .ok (.bipush (-2), 2) := by decide +kernel
theorem dX7_about_185 : decode cX7_about 185 = .ok (.ireturn, 1) := by decide +kernel
