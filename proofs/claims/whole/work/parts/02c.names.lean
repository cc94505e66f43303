theorem dX0_init_0 : decode cX0_init 0 = .ok (.aload_n 0, 1) := by decide +kernel
theorem dX0_init_1 : decode cX0_init 1 = .ok (.invokespecial 3, 3) := by decide +kernel
theorem dX0_init_4 : decode cX0_init 4 = .ok (.aload_n 0, 1) := by decide +kernel
theorem dX0_init_5 : decode cX0_init 5 = .ok (.sipush 200, 3) := by decide +kernel
theorem dX0_init_8 : decode cX0_init 8 = .ok (.newarray .double, 2) := by decide +kernel
theorem dX0_init_10 : decode cX0_init 10 = .ok (.putfield 9, 3) := by decide +kernel
theorem dX0_init_13 : decode cX0_init 13 = .ok (.aload_n 0, 1) := by decide +kernel
theorem dX0_init_14 : decode cX0_init 14 = .ok (.sipush 200, 3) := by decide +kernel
theorem dX0_init_17 : decode cX0_init 17 = .ok (.newarray .double, 2) := by decide +kernel
theorem dX0_init_19 : decode cX0_init 19 = .ok (.putfield 15, 3) := by decide +kernel
theorem dX0_init_22 : decode cX0_init 22 = .ok (.return_, 1) := by decide +kernel
theorem dX0_size_0 : decode cX0_size 0 = .ok (.aload_n 0, 1) := by decide +kernel
theorem dX0_size_1 : decode cX0_size 1 = .ok (.getfield 18, 3) := by decide +kernel
theorem dX0_size_4 : decode cX0_size 4 = .ok (.ireturn, 1) := by decide +kernel
theorem dX0_empty_0 : decode cX0_empty 0 = .ok (.aload_n 0, 1) := by decide +kernel
theorem dX0_empty_1 : decode cX0_empty 1 = .ok (.iconst 0, 1) := by decide +kernel
theorem dX0_empty_2 : decode cX0_empty 2 = .ok (.putfield 18, 3) := by decide +kernel
theorem dX0_empty_5 : decode cX0_empty 5 = .ok (.return_, 1) := by decide +kernel
theorem dX0_add_0 : decode cX0_add 0 = .ok (.aload_n 0, 1) := by decide +kernel
theorem dX0_add_1 : decode cX0_add 1 = .ok (.getfield 18, 3) := by decide +kernel
theorem dX0_add_4 : decode cX0_add 4 = .ok (.ifCond .lt 27, 3) := by decide +kernel
theorem dX0_add_7 : decode cX0_add 7 = .ok (.aload_n 0, 1) := by decide +kernel
theorem dX0_add_8 : decode cX0_add 8 = .ok (.getfield 18, 3) := by decide +kernel
theorem dX0_add_11 : decode cX0_add 11 = .ok (.aload_n 0, 1) := by decide +kernel
theorem dX0_add_12 : decode cX0_add 12 = .ok (.getfield 9, 3) := by decide +kernel
theorem dX0_add_15 : decode cX0_add 15 = .ok (.arraylength, 1) := by decide +kernel
theorem dX0_add_16 : decode cX0_add 16 = .ok (.if_icmp .ge 15, 3) := by decide +kernel
theorem dX0_add_19 : decode cX0_add 19 = .ok (.aload_n 0, 1) := by decide +kernel
theorem dX0_add_20 : decode cX0_add 20 = .ok (.getfield 18, 3) := by decide +kernel
theorem dX0_add_23 : decode cX0_add 23 = .ok (.aload_n 0, 1) := by decide +kernel
theorem dX0_add_24 : decode cX0_add 24 = .ok (.getfield 15, 3) := by decide +kernel
theorem dX0_add_27 : decode cX0_add 27 = .ok (.arraylength, 1) := by decide +kernel
theorem dX0_add_28 : decode cX0_add 28 = .ok (.if_icmp .lt 5, 3) := by decide +kernel
theorem dX0_add_31 : decode cX0_add 31 = .ok (.iconst (-1), 1) := by decide +kernel
theorem dX0_add_32 : decode cX0_add 32 = .ok (.ireturn, 1) := by decide +kernel
theorem dX0_add_33 : decode cX0_add 33 = .ok (.aload_n 0, 1) := by decide +kernel
theorem dX0_add_34 : decode cX0_add 34 = .ok (.getfield 9, 3) := by decide +kernel
theorem dX0_add_37 : decode cX0_add 37 = .ok (.aload_n 0, 1) := by decide +kernel
theorem dX0_add_38 : decode cX0_add 38 = .ok (.getfield 18, 3) := by decide +kernel
theorem dX0_add_41 : decode cX0_add 41 = .ok (.dload_n 1, 1) := by decide +kernel
theorem dX0_add_42 : decode cX0_add 42 = .ok (.dastore, 1) := by decide +kernel
theorem dX0_add_43 : decode cX0_add 43 = .ok (.aload_n 0, 1) := by decide +kernel
theorem dX0_add_44 : decode cX0_add 44 = .ok (.getfield 18, 3) := by decide +kernel
theorem dX0_add_47 : decode cX0_add 47 = .ok (.istore_n 3, 1) := by decide +kernel
theorem dX0_add_48 : decode cX0_add 48 = .ok (.iload_n 3, 1) := by decide +kernel
theorem dX0_add_49 : decode cX0_add 49 = .ok (.ifCond .le 36, 3) := by decide +kernel
theorem dX0_add_52 : decode cX0_add 52 = .ok (.aload_n 0, 1) := by decide +kernel
theorem dX0_add_53 : decode cX0_add 53 = .ok (.getfield 15, 3) := by decide +kernel
theorem dX0_add_56 : decode cX0_add 56 = .ok (.iload_n 3, 1) := by decide +kernel
theorem dX0_add_57 : decode cX0_add 57 = .ok (.iconst 1, 1) := by decide +kernel
theorem dX0_add_58 : decode cX0_add 58 = .ok (.isub, 1) := by decide +kernel
theorem dX0_add_59 : decode cX0_add 59 = .ok (.daload, 1) := by decide +kernel
theorem dX0_add_60 : decode cX0_add 60 = .ok (.dload_n 1, 1) := by decide +kernel
theorem dX0_add_61 : decode cX0_add 61 = .ok (.dcmp .l, 1) := by decide +kernel
theorem dX0_add_62 : decode cX0_add 62 = .ok (.ifCond .le 23, 3) := by decide +kernel
theorem dX0_add_65 : decode cX0_add 65 = .ok (.aload_n 0, 1) := by decide +kernel
theorem dX0_add_66 : decode cX0_add 66 = .ok (.getfield 15, 3) := by decide +kernel
theorem dX0_add_69 : decode cX0_add 69 = .ok (.iload_n 3, 1) := by decide +kernel
theorem dX0_add_70 : decode cX0_add 70 = .ok (.aload_n 0, 1) := by decide +kernel
theorem dX0_add_71 : decode cX0_add 71 = .ok (.getfield 15, 3) := by decide +kernel
theorem dX0_add_74 : decode cX0_add 74 = .ok (.iload_n 3, 1) := by decide +kernel
theorem dX0_add_75 : decode cX0_add 75 = .ok (.iconst 1, 1) := by decide +kernel
theorem dX0_add_76 : decode cX0_add 76 = .ok (.isub, 1) := by decide +kernel
theorem dX0_add_77 : decode cX0_add 77 = .ok (.daload, 1) := by decide +kernel
theorem dX0_add_78 : decode cX0_add 78 = .ok (.dastore, 1) := by decide +kernel
theorem dX0_add_79 : decode cX0_add 79 = .ok (.iinc 3 (-1), 3) := by decide +kernel
theorem dX0_add_82 : decode cX0_add 82 = .ok (.goto (-34), 3) := by decide +kernel
theorem dX0_add_85 : decode cX0_add 85 = .ok (.aload_n 0, 1) := by decide +kernel
theorem dX0_add_86 : decode cX0_add 86 = .ok (.getfield 15, 3) := by decide +kernel
theorem dX0_add_89 : decode cX0_add 89 = .ok (.iload_n 3, 1) := by decide +kernel
theorem dX0_add_90 : decode cX0_add 90 = .ok (.dload_n 1, 1) := by decide +kernel
theorem dX0_add_91 : decode cX0_add 91 = .ok (.dastore, 1) := by decide +kernel
theorem dX0_add_92 : decode cX0_add 92 = .ok (.aload_n 0, 1) := by decide +kernel
theorem dX0_add_93 : decode cX0_add 93 = .ok (.dup, 1) := by decide +kernel
theorem dX0_add_94 : decode cX0_add 94 = .ok (.getfield 18, 3) := by decide +kernel
theorem dX0_add_97 : decode cX0_add 97 = .ok (.iconst 1, 1) := by decide +kernel
theorem dX0_add_98 : decode cX0_add 98 = .ok (.iadd, 1) := by decide +kernel
theorem dX0_add_99 : decode cX0_add 99 = .ok (.putfield 18, 3) := by decide +kernel
theorem dX0_add_102 : decode cX0_add 102 = .ok (.aload_n 0, 1) := by decide +kernel
theorem dX0_add_103 : decode cX0_add 103 = .ok (.getfield 18, 3) := by decide +kernel
theorem dX0_add_106 : decode cX0_add 106 = .ok (.ireturn, 1) := by decide +kernel
theorem dX0_average_0 : decode cX0_average 0 = .ok (.dconst 0, 1) := by decide +kernel
theorem dX0_average_1 : decode cX0_average 1 = .ok (.dstore_n 1, 1) := by decide +kernel
theorem dX0_average_2 : decode cX0_average 2 = .ok (.iconst 0, 1) := by decide +kernel
theorem dX0_average_3 : decode cX0_average 3 = .ok (.istore_n 3, 1) := by decide +kernel
theorem dX0_average_4 : decode cX0_average 4 = .ok (.iload_n 3, 1) := by decide +kernel
theorem dX0_average_5 : decode cX0_average 5 = .ok (.aload_n 0, 1) := by decide +kernel
theorem dX0_average_6 : decode cX0_average 6 = .ok (.getfield 18, 3) := by decide +kernel
theorem dX0_average_9 : decode cX0_average 9 = .ok (.if_icmp .ge 27, 3) := by decide +kernel
theorem dX0_average_12 : decode cX0_average 12 = .ok (.iload_n 3, 1) := by decide +kernel
theorem dX0_average_13 : decode cX0_average 13 = .ok (.aload_n 0, 1) := by decide +kernel
theorem dX0_average_14 : decode cX0_average 14 = .ok (.getfield 9, 3) := by decide +kernel
theorem dX0_average_17 : decode cX0_average 17 = .ok (.arraylength, 1) := by decide +kernel
theorem dX0_average_18 : decode cX0_average 18 = .ok (.if_icmp .ge 18, 3) := by decide +kernel
theorem dX0_average_21 : decode cX0_average 21 = .ok (.dload_n 1, 1) := by decide +kernel
theorem dX0_average_22 : decode cX0_average 22 = .ok (.aload_n 0, 1) := by decide +kernel
theorem dX0_average_23 : decode cX0_average 23 = .ok (.getfield 9, 3) := by decide +kernel
theorem dX0_average_26 : decode cX0_average 26 = .ok (.iload_n 3, 1) := by decide +kernel
theorem dX0_average_27 : decode cX0_average 27 = .ok (.daload, 1) := by decide +kernel
theorem dX0_average_28 : decode cX0_average 28 = .ok (.dadd, 1) := by decide +kernel
theorem dX0_average_29 : decode cX0_average 29 = .ok (.dstore_n 1, 1) := by decide +kernel
theorem dX0_average_30 : decode cX0_average 30 = .ok (.iinc 3 1, 3) := by decide +kernel
theorem dX0_average_33 : decode cX0_average 33 = .ok (.goto (-29), 3) := by decide +kernel
theorem dX0_average_36 : decode cX0_average 36 = .ok (.aload_n 0, 1) := by decide +kernel
theorem dX0_average_37 : decode cX0_average 37 = .ok (.getfield 18, 3) := by decide +kernel
theorem dX0_average_40 : decode cX0_average 40 = .ok (.ifCond .le 13, 3) := by decide +kernel
theorem dX0_average_43 : decode cX0_average 43 = .ok (.dload_n 1, 1) := by decide +kernel
theorem dX0_average_44 : decode cX0_average 44 = .ok (.aload_n 0, 1) := by decide +kernel
theorem dX0_average_45 : decode cX0_average 45 = .ok (.getfield 18, 3) := by decide +kernel
theorem dX0_average_48 : decode cX0_average 48 = .ok (.i2d, 1) := by decide +kernel
theorem dX0_average_49 : decode cX0_average 49 = .ok (.ddiv, 1) := by decide +kernel
theorem dX0_average_50 : decode cX0_average 50 = .ok (.goto 4, 3) := by decide +kernel
theorem dX0_average_53 : decode cX0_average 53 = .ok (.dconst 0, 1) := by decide +kernel
theorem dX0_average_54 : decode cX0_average 54 = .ok (.dreturn, 1) := by decide +kernel
theorem dX0_atRank_0 : decode cX0_atRank 0 = .ok (.iload_n 1, 1) := by decide +kernel
theorem dX0_atRank_1 : decode cX0_atRank 1 = .ok (.ifCond .lt 29, 3) := by decide +kernel
theorem dX0_atRank_4 : decode cX0_atRank 4 = .ok (.iload_n 1, 1) := by decide +kernel
theorem dX0_atRank_5 : decode cX0_atRank 5 = .ok (.aload_n 0, 1) := by decide +kernel
theorem dX0_atRank_6 : decode cX0_atRank 6 = .ok (.getfield 18, 3) := by decide +kernel
theorem dX0_atRank_9 : decode cX0_atRank 9 = .ok (.if_icmp .ge 21, 3) := by decide +kernel
theorem dX0_atRank_12 : decode cX0_atRank 12 = .ok (.iload_n 1, 1) := by decide +kernel
theorem dX0_atRank_13 : decode cX0_atRank 13 = .ok (.aload_n 0, 1) := by decide +kernel
theorem dX0_atRank_14 : decode cX0_atRank 14 = .ok (.getfield 15, 3) := by decide +kernel
theorem dX0_atRank_17 : decode cX0_atRank 17 = .ok (.arraylength, 1) := by decide +kernel
theorem dX0_atRank_18 : decode cX0_atRank 18 = .ok (.if_icmp .ge 12, 3) := by decide +kernel
theorem dX0_atRank_21 : decode cX0_atRank 21 = .ok (.aload_n 0, 1) := by decide +kernel
theorem dX0_atRank_22 : decode cX0_atRank 22 = .ok (.getfield 15, 3) := by decide +kernel
theorem dX0_atRank_25 : decode cX0_atRank 25 = .ok (.iload_n 1, 1) := by decide +kernel
theorem dX0_atRank_26 : decode cX0_atRank 26 = .ok (.daload, 1) := by decide +kernel
theorem dX0_atRank_27 : decode cX0_atRank 27 = .ok (.goto 4, 3) := by decide +kernel
theorem dX0_atRank_30 : decode cX0_atRank 30 = .ok (.dconst 0, 1) := by decide +kernel
theorem dX0_atRank_31 : decode cX0_atRank 31 = .ok (.dreturn, 1) := by decide +kernel
theorem dX0_winsAgainst_0 : decode cX0_winsAgainst 0 = .ok (.iconst 0, 1) := by decide +kernel
theorem dX0_winsAgainst_1 : decode cX0_winsAgainst 1 = .ok (.istore_n 2, 1) := by decide +kernel
theorem dX0_winsAgainst_2 : decode cX0_winsAgainst 2 = .ok (.aload_n 0, 1) := by decide +kernel
theorem dX0_winsAgainst_3 : decode cX0_winsAgainst 3 = .ok (.getfield 18, 3) := by decide +kernel
theorem dX0_winsAgainst_6 : decode cX0_winsAgainst 6 = .ok (.aload_n 1, 1) := by decide +kernel
theorem dX0_winsAgainst_7 : decode cX0_winsAgainst 7 = .ok (.getfield 18, 3) := by decide +kernel
theorem dX0_winsAgainst_10 : decode cX0_winsAgainst 10 = .ok (.invokestatic 22, 3) := by decide +kernel
theorem dX0_winsAgainst_13 : decode cX0_winsAgainst 13 = .ok (.istore_n 3, 1) := by decide +kernel
theorem dX0_winsAgainst_14 : decode cX0_winsAgainst 14 = .ok (.iconst 0, 1) := by decide +kernel
theorem dX0_winsAgainst_15 : decode cX0_winsAgainst 15 = .ok (.istore 4, 2) := by decide +kernel
theorem dX0_winsAgainst_17 : decode cX0_winsAgainst 17 = .ok (.iload 4, 2) := by decide +kernel
theorem dX0_winsAgainst_19 : decode cX0_winsAgainst 19 = .ok (.iload_n 3, 1) := by decide +kernel
theorem dX0_winsAgainst_20 : decode cX0_winsAgainst 20 = .ok (.if_icmp .ge 74, 3) := by decide +kernel
theorem dX0_winsAgainst_23 : decode cX0_winsAgainst 23 = .ok (.iload 4, 2) := by decide +kernel
theorem dX0_winsAgainst_25 : decode cX0_winsAgainst 25 = .ok (.aload_n 0, 1) := by decide +kernel
theorem dX0_winsAgainst_26 : decode cX0_winsAgainst 26 = .ok (.getfield 9, 3) := by decide +kernel
theorem dX0_winsAgainst_29 : decode cX0_winsAgainst 29 = .ok (.arraylength, 1) := by decide +kernel
theorem dX0_winsAgainst_30 : decode cX0_winsAgainst 30 = .ok (.if_icmp .ge 64, 3) := by decide +kernel
theorem dX0_winsAgainst_33 : decode cX0_winsAgainst 33 = .ok (.iload 4, 2) := by decide +kernel
theorem dX0_winsAgainst_35 : decode cX0_winsAgainst 35 = .ok (.aload_n 1, 1) := by decide +kernel
theorem dX0_winsAgainst_36 : decode cX0_winsAgainst 36 = .ok (.getfield 9, 3) := by decide +kernel
theorem dX0_winsAgainst_39 : decode cX0_winsAgainst 39 = .ok (.arraylength, 1) := by decide +kernel
theorem dX0_winsAgainst_40 : decode cX0_winsAgainst 40 = .ok (.if_icmp .ge 54, 3) := by decide +kernel
theorem dX0_winsAgainst_43 : decode cX0_winsAgainst 43 = .ok (.aload_n 0, 1) := by decide +kernel
theorem dX0_winsAgainst_44 : decode cX0_winsAgainst 44 = .ok (.getfield 9, 3) := by decide +kernel
theorem dX0_winsAgainst_47 : decode cX0_winsAgainst 47 = .ok (.iload 4, 2) := by decide +kernel
theorem dX0_winsAgainst_49 : decode cX0_winsAgainst 49 = .ok (.daload, 1) := by decide +kernel
theorem dX0_winsAgainst_50 : decode cX0_winsAgainst 50 = .ok (.aload_n 1, 1) := by decide +kernel
theorem dX0_winsAgainst_51 : decode cX0_winsAgainst 51 = .ok (.getfield 9, 3) := by decide +kernel
theorem dX0_winsAgainst_54 : decode cX0_winsAgainst 54 = .ok (.iload 4, 2) := by decide +kernel
theorem dX0_winsAgainst_56 : decode cX0_winsAgainst 56 = .ok (.daload, 1) := by decide +kernel
theorem dX0_winsAgainst_57 : decode cX0_winsAgainst 57 = .ok (.dcmp .l, 1) := by decide +kernel
theorem dX0_winsAgainst_58 : decode cX0_winsAgainst 58 = .ok (.ifCond .le 9, 3) := by decide +kernel
theorem dX0_winsAgainst_61 : decode cX0_winsAgainst 61 = .ok (.iinc 2 1, 3) := by decide +kernel
theorem dX0_winsAgainst_64 : decode cX0_winsAgainst 64 = .ok (.goto 24, 3) := by decide +kernel
theorem dX0_winsAgainst_67 : decode cX0_winsAgainst 67 = .ok (.aload_n 0, 1) := by decide +kernel
theorem dX0_winsAgainst_68 : decode cX0_winsAgainst 68 = .ok (.getfield 9, 3) := by decide +kernel
theorem dX0_winsAgainst_71 : decode cX0_winsAgainst 71 = .ok (.iload 4, 2) := by decide +kernel
theorem dX0_winsAgainst_73 : decode cX0_winsAgainst 73 = .ok (.daload, 1) := by decide +kernel
theorem dX0_winsAgainst_74 : decode cX0_winsAgainst 74 = .ok (.aload_n 1, 1) := by decide +kernel
theorem dX0_winsAgainst_75 : decode cX0_winsAgainst 75 = .ok (.getfield 9, 3) := by decide +kernel
theorem dX0_winsAgainst_78 : decode cX0_winsAgainst 78 = .ok (.iload 4, 2) := by decide +kernel
theorem dX0_winsAgainst_80 : decode cX0_winsAgainst 80 = .ok (.daload, 1) := by decide +kernel
theorem dX0_winsAgainst_81 : decode cX0_winsAgainst 81 = .ok (.dcmp .g, 1) := by decide +kernel
theorem dX0_winsAgainst_82 : decode cX0_winsAgainst 82 = .ok (.ifCond .ge 6, 3) := by decide +kernel
theorem dX0_winsAgainst_85 : decode cX0_winsAgainst 85 = .ok (.iinc 2 (-1), 3) := by decide +kernel
theorem dX0_winsAgainst_88 : decode cX0_winsAgainst 88 = .ok (.iinc 4 1, 3) := by decide +kernel
theorem dX0_winsAgainst_91 : decode cX0_winsAgainst 91 = .ok (.goto (-74), 3) := by decide +kernel
theorem dX0_winsAgainst_94 : decode cX0_winsAgainst 94 = .ok (.iload_n 2, 1) := by decide +kernel
theorem dX0_winsAgainst_95 : decode cX0_winsAgainst 95 = .ok (.ireturn, 1) := by decide +kernel
theorem dX1_init_0 : decode cX1_init 0 = .ok (.aload_n 0, 1) := by decide +kernel
theorem dX1_init_1 : decode cX1_init 1 = .ok (.invokespecial 3, 3) := by decide +kernel
theorem dX1_init_4 : decode cX1_init 4 = .ok (.aload_n 0, 1) := by decide +kernel
theorem dX1_init_5 : decode cX1_init 5 = .ok (.iload_n 1, 1) := by decide +kernel
theorem dX1_init_6 : decode cX1_init 6 = .ok (.putfield 9, 3) := by decide +kernel
theorem dX1_init_9 : decode cX1_init 9 = .ok (.aload_n 0, 1) := by decide +kernel
theorem dX1_init_10 : decode cX1_init 10 = .ok (.iload_n 2, 1) := by decide +kernel
theorem dX1_init_11 : decode cX1_init 11 = .ok (.putfield 15, 3) := by decide +kernel
theorem dX1_init_14 : decode cX1_init 14 = .ok (.aload_n 0, 1) := by decide +kernel
theorem dX1_init_15 : decode cX1_init 15 = .ok (.iload_n 1, 1) := by decide +kernel
theorem dX1_init_16 : decode cX1_init 16 = .ok (.iconst 2, 1) := by decide +kernel
theorem dX1_init_17 : decode cX1_init 17 = .ok (.iadd, 1) := by decide +kernel
theorem dX1_init_18 : decode cX1_init 18 = .ok (.putfield 18, 3) := by decide +kernel
theorem dX1_init_21 : decode cX1_init 21 = .ok (.aload_n 0, 1) := by decide +kernel
theorem dX1_init_22 : decode cX1_init 22 = .ok (.aload_n 0, 1) := by decide +kernel
theorem dX1_init_23 : decode cX1_init 23 = .ok (.getfield 18, 3) := by decide +kernel
theorem dX1_init_26 : decode cX1_init 26 = .ok (.iload_n 2, 1) := by decide +kernel
theorem dX1_init_27 : decode cX1_init 27 = .ok (.iconst 2, 1) := by decide +kernel
theorem dX1_init_28 : decode cX1_init 28 = .ok (.iadd, 1) := by decide +kernel
theorem dX1_init_29 : decode cX1_init 29 = .ok (.imul, 1) := by decide +kernel
theorem dX1_init_30 : decode cX1_init 30 = .ok (.newarray .int, 2) := by decide +kernel
theorem dX1_init_32 : decode cX1_init 32 = .ok (.putfield 21, 3) := by decide +kernel
theorem dX1_init_35 : decode cX1_init 35 = .ok (.aload_n 0, 1) := by decide +kernel
theorem dX1_init_36 : decode cX1_init 36 = .ok (.iload_n 1, 1) := by decide +kernel
theorem dX1_init_37 : decode cX1_init 37 = .ok (.iload_n 2, 1) := by decide +kernel
theorem dX1_init_38 : decode cX1_init 38 = .ok (.imul, 1) := by decide +kernel
theorem dX1_init_39 : decode cX1_init 39 = .ok (.newarray .int, 2) := by decide +kernel
theorem dX1_init_41 : decode cX1_init 41 = .ok (.putfield 25, 3) := by decide +kernel
theorem dX1_init_44 : decode cX1_init 44 = .ok (.aload_n 0, 1) := by decide +kernel
theorem dX1_init_45 : decode cX1_init 45 = .ok (.aload_n 0, 1) := by decide +kernel
theorem dX1_init_46 : decode cX1_init 46 = .ok (.getfield 18, 3) := by decide +kernel
theorem dX1_init_49 : decode cX1_init 49 = .ok (.iload_n 2, 1) := by decide +kernel
theorem dX1_init_50 : decode cX1_init 50 = .ok (.iconst 2, 1) := by decide +kernel
theorem dX1_init_51 : decode cX1_init 51 = .ok (.iadd, 1) := by decide +kernel
theorem dX1_init_52 : decode cX1_init 52 = .ok (.imul, 1) := by decide +kernel
theorem dX1_init_53 : decode cX1_init 53 = .ok (.newarray .boolean, 2) := by decide +kernel
theorem dX1_init_55 : decode cX1_init 55 = .ok (.putfield 28, 3) := by decide +kernel
theorem dX1_init_58 : decode cX1_init 58 = .ok (.return_, 1) := by decide +kernel
set_option maxRecDepth 20000 in
theorem ggX1_findIn_X1_openBlackPlaces : GoodIn wsX1_findIn wsX1_openBlackPlaces := goodIn_r _ [6, 1, 7, 8, 9, 10, 11, 12, 13, 14, 15, 16, 27, 28, 29, 30, 31, 32, 33, 34, 35] (by decide +kernel) (by decide +kernel)
set_option maxRecDepth 20000 in
theorem gX1_findIn_X1_openBlackPlaces : GoodIn wsX1_findIn (wsV RX1 32 RX1 yX1_openBlackPlaces wsX1_openBlackPlaces) := goodIn_app (goodIn_of _ (by decide +kernel)) ggX1_findIn_X1_openBlackPlaces
set_option maxRecDepth 20000 in
theorem ggX1_findIn_X1_spreadFrom : GoodIn wsX1_findIn wsX1_spreadFrom := goodIn_r _ [20, 21, 22, 9, 23, 24, 25, 5, 26, 1, 27, 28, 29, 30, 31, 32, 33] (by decide +kernel) (by decide +kernel)
set_option maxRecDepth 20000 in
theorem gX1_findIn_X1_spreadFrom : GoodIn wsX1_findIn (wsV RX1 36 RX1 yX1_spreadFrom wsX1_spreadFrom) := goodIn_app (goodIn_of _ (by decide +kernel)) ggX1_findIn_X1_spreadFrom
theorem dX1_findIn_0 : decode cX1_findIn 0 = .ok (.aload_n 0, 1) := by decide +kernel
theorem dX1_findIn_1 : decode cX1_findIn 1 = .ok (.aload_n 1, 1) := by decide +kernel
theorem dX1_findIn_2 : decode cX1_findIn 2 = .ok (.invokevirtual 32, 3) := by decide +kernel
theorem dX1_findIn_5 : decode cX1_findIn 5 = .ok (.iconst 0, 1) := by decide +kernel
theorem dX1_findIn_6 : decode cX1_findIn 6 = .ok (.istore_n 2, 1) := by decide +kernel
theorem dX1_findIn_7 : decode cX1_findIn 7 = .ok (.iload_n 2, 1) := by decide +kernel
theorem dX1_findIn_8 : decode cX1_findIn 8 = .ok (.aload_n 0, 1) := by decide +kernel
theorem dX1_findIn_9 : decode cX1_findIn 9 = .ok (.getfield 21, 3) := by decide +kernel
theorem dX1_findIn_12 : decode cX1_findIn 12 = .ok (.arraylength, 1) := by decide +kernel
theorem dX1_findIn_13 : decode cX1_findIn 13 = .ok (.if_icmp .ge 25, 3) := by decide +kernel
theorem dX1_findIn_16 : decode cX1_findIn 16 = .ok (.aload_n 0, 1) := by decide +kernel
theorem dX1_findIn_17 : decode cX1_findIn 17 = .ok (.getfield 21, 3) := by decide +kernel
theorem dX1_findIn_20 : decode cX1_findIn 20 = .ok (.iload_n 2, 1) := by decide +kernel
theorem dX1_findIn_21 : decode cX1_findIn 21 = .ok (.iaload, 1) := by decide +kernel
theorem dX1_findIn_22 : decode cX1_findIn 22 = .ok (.bipush (-2), 2) := by decide +kernel
theorem dX1_findIn_24 : decode cX1_findIn 24 = .ok (.if_icmp .ne 8, 3) := by decide +kernel
theorem dX1_findIn_27 : decode cX1_findIn 27 = .ok (.aload_n 0, 1) := by decide +kernel
theorem dX1_findIn_28 : decode cX1_findIn 28 = .ok (.iload_n 2, 1) := by decide +kernel
theorem dX1_findIn_29 : decode cX1_findIn 29 = .ok (.invokevirtual 36, 3) := by decide +kernel
theorem dX1_findIn_32 : decode cX1_findIn 32 = .ok (.iinc 2 1, 3) := by decide +kernel
theorem dX1_findIn_35 : decode cX1_findIn 35 = .ok (.goto (-28), 3) := by decide +kernel
theorem dX1_findIn_38 : decode cX1_findIn 38 = .ok (.return_, 1) := by decide +kernel
set_option maxRecDepth 20000 in
theorem ggX1_openBlackPlaces_X2_greyAt : GoodIn wsX1_openBlackPlaces wsX2_greyAt := goodIn_r _ [9, 10, 11, 19, 20] (by decide +kernel) (by decide +kernel)
set_option maxRecDepth 20000 in
theorem gX1_openBlackPlaces_X2_greyAt : GoodIn wsX1_openBlackPlaces (wsV RX1 40 RX2 yX2_greyAt wsX2_greyAt) := goodIn_app (goodIn_of _ (by decide +kernel)) ggX1_openBlackPlaces_X2_greyAt
theorem dX1_openBlackPlaces_0 : decode cX1_openBlackPlaces 0 = .ok (.iconst 0, 1) := by decide +kernel
theorem dX1_openBlackPlaces_1 : decode cX1_openBlackPlaces 1 = .ok (.istore_n 2, 1) := by decide +kernel
theorem dX1_openBlackPlaces_2 : decode cX1_openBlackPlaces 2 = .ok (.iload_n 2, 1) := by decide +kernel
theorem dX1_openBlackPlaces_3 : decode cX1_openBlackPlaces 3 = .ok (.aload_n 0, 1) := by decide +kernel
theorem dX1_openBlackPlaces_4 : decode cX1_openBlackPlaces 4 = .ok (.getfield 21, 3) := by decide +kernel
theorem dX1_openBlackPlaces_7 : decode cX1_openBlackPlaces 7 = .ok (.arraylength, 1) := by decide +kernel
theorem dX1_openBlackPlaces_8 : decode cX1_openBlackPlaces 8 = .ok (.if_icmp .ge 16, 3) := by decide +kernel
theorem dX1_openBlackPlaces_11 : decode cX1_openBlackPlaces 11 = .ok (.aload_n 0, 1) := by decide +kernel
theorem dX1_openBlackPlaces_12 : decode cX1_openBlackPlaces 12 = .ok (.getfield 21, 3) := by decide +kernel
theorem dX1_openBlackPlaces_15 : decode cX1_openBlackPlaces 15 = .ok (.iload_n 2, 1) := by decide +kernel
theorem dX1_openBlackPlaces_16 : decode cX1_openBlackPlaces 16 = .ok (.iconst (-1), 1) := by decide +kernel
theorem dX1_openBlackPlaces_17 : decode cX1_openBlackPlaces 17 = .ok (.iastore, 1) := by decide +kernel
theorem dX1_openBlackPlaces_18 : decode cX1_openBlackPlaces 18 = .ok (.iinc 2 1, 3) := by decide +kernel
theorem dX1_openBlackPlaces_21 : decode cX1_openBlackPlaces 21 = .ok (.goto (-19), 3) := by decide +kernel
theorem dX1_openBlackPlaces_24 : decode cX1_openBlackPlaces 24 = .ok (.iconst 0, 1) := by decide +kernel
theorem dX1_openBlackPlaces_25 : decode cX1_openBlackPlaces 25 = .ok (.istore_n 2, 1) := by decide +kernel
theorem dX1_openBlackPlaces_26 : decode cX1_openBlackPlaces 26 = .ok (.iload_n 2, 1) := by decide +kernel
theorem dX1_openBlackPlaces_27 : decode cX1_openBlackPlaces 27 = .ok (.aload_n 0, 1) := by decide +kernel
theorem dX1_openBlackPlaces_28 : decode cX1_openBlackPlaces 28 = .ok (.getfield 15, 3) := by decide +kernel
theorem dX1_openBlackPlaces_31 : decode cX1_openBlackPlaces 31 = .ok (.if_icmp .ge 93, 3) := by decide +kernel
theorem dX1_openBlackPlaces_34 : decode cX1_openBlackPlaces 34 = .ok (.iconst 0, 1) := by decide +kernel
theorem dX1_openBlackPlaces_35 : decode cX1_openBlackPlaces 35 = .ok (.istore_n 3, 1) := by decide +kernel
theorem dX1_openBlackPlaces_36 : decode cX1_openBlackPlaces 36 = .ok (.iload_n 3, 1) := by decide +kernel
theorem dX1_openBlackPlaces_37 : decode cX1_openBlackPlaces 37 = .ok (.aload_n 0, 1) := by decide +kernel
theorem dX1_openBlackPlaces_38 : decode cX1_openBlackPlaces 38 = .ok (.getfield 9, 3) := by decide +kernel
theorem dX1_openBlackPlaces_41 : decode cX1_openBlackPlaces 41 = .ok (.if_icmp .ge 77, 3) := by decide +kernel
theorem dX1_openBlackPlaces_44 : decode cX1_openBlackPlaces 44 = .ok (.iload_n 2, 1) := by decide +kernel
theorem dX1_openBlackPlaces_45 : decode cX1_openBlackPlaces 45 = .ok (.iconst 1, 1) := by decide +kernel
theorem dX1_openBlackPlaces_46 : decode cX1_openBlackPlaces 46 = .ok (.iadd, 1) := by decide +kernel
theorem dX1_openBlackPlaces_47 : decode cX1_openBlackPlaces 47 = .ok (.aload_n 0, 1) := by decide +kernel
theorem dX1_openBlackPlaces_48 : decode cX1_openBlackPlaces 48 = .ok (.getfield 18, 3) := by decide +kernel
theorem dX1_openBlackPlaces_51 : decode cX1_openBlackPlaces 51 = .ok (.imul, 1) := by decide +kernel
theorem dX1_openBlackPlaces_52 : decode cX1_openBlackPlaces 52 = .ok (.iload_n 3, 1) := by decide +kernel
theorem dX1_openBlackPlaces_53 : decode cX1_openBlackPlaces 53 = .ok (.iadd, 1) := by decide +kernel
theorem dX1_openBlackPlaces_54 : decode cX1_openBlackPlaces 54 = .ok (.iconst 1, 1) := by decide +kernel
theorem dX1_openBlackPlaces_55 : decode cX1_openBlackPlaces 55 = .ok (.iadd, 1) := by decide +kernel
theorem dX1_openBlackPlaces_56 : decode cX1_openBlackPlaces 56 = .ok (.istore 4, 2) := by decide +kernel
theorem dX1_openBlackPlaces_58 : decode cX1_openBlackPlaces 58 = .ok (.aload_n 1, 1) := by decide +kernel
theorem dX1_openBlackPlaces_59 : decode cX1_openBlackPlaces 59 = .ok (.iload_n 2, 1) := by decide +kernel
theorem dX1_openBlackPlaces_60 : decode cX1_openBlackPlaces 60 = .ok (.aload_n 0, 1) := by decide +kernel
theorem dX1_openBlackPlaces_61 : decode cX1_openBlackPlaces 61 = .ok (.getfield 9, 3) := by decide +kernel
theorem dX1_openBlackPlaces_64 : decode cX1_openBlackPlaces 64 = .ok (.imul, 1) := by decide +kernel
theorem dX1_openBlackPlaces_65 : decode cX1_openBlackPlaces 65 = .ok (.iload_n 3, 1) := by decide +kernel
theorem dX1_openBlackPlaces_66 : decode cX1_openBlackPlaces 66 = .ok (.iadd, 1) := by decide +kernel
theorem dX1_openBlackPlaces_67 : decode cX1_openBlackPlaces 67 = .ok (.invokevirtual 40, 3) := by decide +kernel
theorem dX1_openBlackPlaces_70 : decode cX1_openBlackPlaces 70 = .ok (.sipush 128, 3) := by decide +kernel
theorem dX1_openBlackPlaces_73 : decode cX1_openBlackPlaces 73 = .ok (.if_icmp .ge 7, 3) := by decide +kernel
theorem dX1_openBlackPlaces_76 : decode cX1_openBlackPlaces 76 = .ok (.iconst 1, 1) := by decide +kernel
theorem dX1_openBlackPlaces_77 : decode cX1_openBlackPlaces 77 = .ok (.goto 4, 3) := by decide +kernel
theorem dX1_openBlackPlaces_80 : decode cX1_openBlackPlaces 80 = .ok (.iconst 0, 1) := by decide +kernel
theorem dX1_openBlackPlaces_81 : decode cX1_openBlackPlaces 81 = .ok (.istore 5, 2) := by decide +kernel
theorem dX1_openBlackPlaces_83 : decode cX1_openBlackPlaces 83 = .ok (.iload 5, 2) := by decide +kernel
theorem dX1_openBlackPlaces_85 : decode cX1_openBlackPlaces 85 = .ok (.ifCond .eq 27, 3) := by decide +kernel
theorem dX1_openBlackPlaces_88 : decode cX1_openBlackPlaces 88 = .ok (.iload 4, 2) := by decide +kernel
theorem dX1_openBlackPlaces_90 : decode cX1_openBlackPlaces 90 = .ok (.ifCond .lt 22, 3) := by decide +kernel
theorem dX1_openBlackPlaces_93 : decode cX1_openBlackPlaces 93 = .ok (.iload 4, 2) := by decide +kernel
theorem dX1_openBlackPlaces_95 : decode cX1_openBlackPlaces 95 = .ok (.aload_n 0, 1) := by decide +kernel
theorem dX1_openBlackPlaces_96 : decode cX1_openBlackPlaces 96 = .ok (.getfield 21, 3) := by decide +kernel
theorem dX1_openBlackPlaces_99 : decode cX1_openBlackPlaces 99 = .ok (.arraylength, 1) := by decide +kernel
theorem dX1_openBlackPlaces_100 : decode cX1_openBlackPlaces 100 = .ok (.if_icmp .ge 12, 3) := by decide +kernel
theorem dX1_openBlackPlaces_103 : decode cX1_openBlackPlaces 103 = .ok (.aload_n 0, 1) := by decide +kernel
theorem dX1_openBlackPlaces_104 : decode cX1_openBlackPlaces 104 = .ok (.getfield 21, 3) := by decide +kernel
theorem dX1_openBlackPlaces_107 : decode cX1_openBlackPlaces 107 = .ok (.iload 4, 2) := by decide +kernel
theorem dX1_openBlackPlaces_109 : decode cX1_openBlackPlaces 109 = .ok (.bipush (-2), 2) := by decide +kernel
theorem dX1_openBlackPlaces_111 : decode cX1_openBlackPlaces 111 = .ok (.iastore, 1) := by decide +kernel
theorem dX1_openBlackPlaces_112 : decode cX1_openBlackPlaces 112 = .ok (.iinc 3 1, 3) := by decide +kernel
theorem dX1_openBlackPlaces_115 : decode cX1_openBlackPlaces 115 = .ok (.goto (-79), 3) := by decide +kernel
theorem dX1_openBlackPlaces_118 : decode cX1_openBlackPlaces 118 = .ok (.iinc 2 1, 3) := by decide +kernel
theorem dX1_openBlackPlaces_121 : decode cX1_openBlackPlaces 121 = .ok (.goto (-95), 3) := by decide +kernel
theorem dX1_openBlackPlaces_124 : decode cX1_openBlackPlaces 124 = .ok (.return_, 1) := by decide +kernel
set_option maxRecDepth 20000 in
theorem ggX1_spreadFrom_X1_join : GoodIn wsX1_spreadFrom wsX1_join := goodIn_r _ [8, 9, 1, 2, 10, 11, 12, 13, 14, 15, 16] (by decide +kernel) (by decide +kernel)
set_option maxRecDepth 20000 in
theorem gX1_spreadFrom_X1_join : GoodIn wsX1_spreadFrom (wsV RX1 49 RX1 yX1_join wsX1_join) := goodIn_app (goodIn_of _ (by decide +kernel)) ggX1_spreadFrom_X1_join
theorem dX1_spreadFrom_0 : decode cX1_spreadFrom 0 = .ok (.aload_n 0, 1) := by decide +kernel
theorem dX1_spreadFrom_1 : decode cX1_spreadFrom 1 = .ok (.iconst 0, 1) := by decide +kernel
theorem dX1_spreadFrom_2 : decode cX1_spreadFrom 2 = .ok (.putfield 46, 3) := by decide +kernel
theorem dX1_spreadFrom_5 : decode cX1_spreadFrom 5 = .ok (.aload_n 0, 1) := by decide +kernel
theorem dX1_spreadFrom_6 : decode cX1_spreadFrom 6 = .ok (.iload_n 1, 1) := by decide +kernel
theorem dX1_spreadFrom_7 : decode cX1_spreadFrom 7 = .ok (.iload_n 1, 1) := by decide +kernel
theorem dX1_spreadFrom_8 : decode cX1_spreadFrom 8 = .ok (.invokevirtual 49, 3) := by decide +kernel
theorem dX1_spreadFrom_11 : decode cX1_spreadFrom 11 = .ok (.iconst 0, 1) := by decide +kernel
theorem dX1_spreadFrom_12 : decode cX1_spreadFrom 12 = .ok (.istore_n 2, 1) := by decide +kernel
theorem dX1_spreadFrom_13 : decode cX1_spreadFrom 13 = .ok (.iload_n 2, 1) := by decide +kernel
theorem dX1_spreadFrom_14 : decode cX1_spreadFrom 14 = .ok (.aload_n 0, 1) := by decide +kernel
theorem dX1_spreadFrom_15 : decode cX1_spreadFrom 15 = .ok (.getfield 25, 3) := by decide +kernel
theorem dX1_spreadFrom_18 : decode cX1_spreadFrom 18 = .ok (.arraylength, 1) := by decide +kernel
theorem dX1_spreadFrom_19 : decode cX1_spreadFrom 19 = .ok (.if_icmp .ge 70, 3) := by decide +kernel
theorem dX1_spreadFrom_22 : decode cX1_spreadFrom 22 = .ok (.iload_n 2, 1) := by decide +kernel
theorem dX1_spreadFrom_23 : decode cX1_spreadFrom 23 = .ok (.aload_n 0, 1) := by decide +kernel
theorem dX1_spreadFrom_24 : decode cX1_spreadFrom 24 = .ok (.getfield 46, 3) := by decide +kernel
theorem dX1_spreadFrom_27 : decode cX1_spreadFrom 27 = .ok (.if_icmp .ge 62, 3) := by decide +kernel
theorem dX1_spreadFrom_30 : decode cX1_spreadFrom 30 = .ok (.iconst (-1), 1) := by decide +kernel
theorem dX1_spreadFrom_31 : decode cX1_spreadFrom 31 = .ok (.istore_n 3, 1) := by decide +kernel
theorem dX1_spreadFrom_32 : decode cX1_spreadFrom 32 = .ok (.iload_n 3, 1) := by decide +kernel
theorem dX1_spreadFrom_33 : decode cX1_spreadFrom 33 = .ok (.iconst 1, 1) := by decide +kernel
theorem dX1_spreadFrom_34 : decode cX1_spreadFrom 34 = .ok (.if_icmp .gt 49, 3) := by decide +kernel
theorem dX1_spreadFrom_37 : decode cX1_spreadFrom 37 = .ok (.aload_n 0, 1) := by decide +kernel
theorem dX1_spreadFrom_38 : decode cX1_spreadFrom 38 = .ok (.getfield 25, 3) := by decide +kernel
theorem dX1_spreadFrom_41 : decode cX1_spreadFrom 41 = .ok (.iload_n 2, 1) := by decide +kernel
theorem dX1_spreadFrom_42 : decode cX1_spreadFrom 42 = .ok (.iaload, 1) := by decide +kernel
theorem dX1_spreadFrom_43 : decode cX1_spreadFrom 43 = .ok (.iload_n 3, 1) := by decide +kernel
theorem dX1_spreadFrom_44 : decode cX1_spreadFrom 44 = .ok (.aload_n 0, 1) := by decide +kernel
theorem dX1_spreadFrom_45 : decode cX1_spreadFrom 45 = .ok (.getfield 18, 3) := by decide +kernel
theorem dX1_spreadFrom_48 : decode cX1_spreadFrom 48 = .ok (.imul, 1) := by decide +kernel
theorem dX1_spreadFrom_49 : decode cX1_spreadFrom 49 = .ok (.iadd, 1) := by decide +kernel
theorem dX1_spreadFrom_50 : decode cX1_spreadFrom 50 = .ok (.istore 4, 2) := by decide +kernel
theorem dX1_spreadFrom_52 : decode cX1_spreadFrom 52 = .ok (.aload_n 0, 1) := by decide +kernel
theorem dX1_spreadFrom_53 : decode cX1_spreadFrom 53 = .ok (.iload 4, 2) := by decide +kernel
theorem dX1_spreadFrom_55 : decode cX1_spreadFrom 55 = .ok (.iconst 1, 1) := by decide +kernel
theorem dX1_spreadFrom_56 : decode cX1_spreadFrom 56 = .ok (.isub, 1) := by decide +kernel
theorem dX1_spreadFrom_57 : decode cX1_spreadFrom 57 = .ok (.iload_n 1, 1) := by decide +kernel
theorem dX1_spreadFrom_58 : decode cX1_spreadFrom 58 = .ok (.invokevirtual 49, 3) := by decide +kernel
theorem dX1_spreadFrom_61 : decode cX1_spreadFrom 61 = .ok (.aload_n 0, 1) := by decide +kernel
theorem dX1_spreadFrom_62 : decode cX1_spreadFrom 62 = .ok (.iload 4, 2) := by decide +kernel
theorem dX1_spreadFrom_64 : decode cX1_spreadFrom 64 = .ok (.iload_n 1, 1) := by decide +kernel
theorem dX1_spreadFrom_65 : decode cX1_spreadFrom 65 = .ok (.invokevirtual 49, 3) := by decide +kernel
theorem dX1_spreadFrom_68 : decode cX1_spreadFrom 68 = .ok (.aload_n 0, 1) := by decide +kernel
theorem dX1_spreadFrom_69 : decode cX1_spreadFrom 69 = .ok (.iload 4, 2) := by decide +kernel
theorem dX1_spreadFrom_71 : decode cX1_spreadFrom 71 = .ok (.iconst 1, 1) := by decide +kernel
theorem dX1_spreadFrom_72 : decode cX1_spreadFrom 72 = .ok (.iadd, 1) := by decide +kernel
theorem dX1_spreadFrom_73 : decode cX1_spreadFrom 73 = .ok (.iload_n 1, 1) := by decide +kernel
theorem dX1_spreadFrom_74 : decode cX1_spreadFrom 74 = .ok (.invokevirtual 49, 3) := by decide +kernel
theorem dX1_spreadFrom_77 : decode cX1_spreadFrom 77 = .ok (.iinc 3 1, 3) := by decide +kernel
theorem dX1_spreadFrom_80 : decode cX1_spreadFrom 80 = .ok (.goto (-48), 3) := by decide +kernel
theorem dX1_spreadFrom_83 : decode cX1_spreadFrom 83 = .ok (.iinc 2 1, 3) := by decide +kernel
theorem dX1_spreadFrom_86 : decode cX1_spreadFrom 86 = .ok (.goto (-73), 3) := by decide +kernel
theorem dX1_spreadFrom_89 : decode cX1_spreadFrom 89 = .ok (.return_, 1) := by decide +kernel
theorem dX1_join_0 : decode cX1_join 0 = .ok (.iload_n 1, 1) := by decide +kernel
theorem dX1_join_1 : decode cX1_join 1 = .ok (.ifCond .lt 23, 3) := by decide +kernel
theorem dX1_join_4 : decode cX1_join 4 = .ok (.iload_n 1, 1) := by decide +kernel
theorem dX1_join_5 : decode cX1_join 5 = .ok (.aload_n 0, 1) := by decide +kernel
theorem dX1_join_6 : decode cX1_join 6 = .ok (.getfield 21, 3) := by decide +kernel
theorem dX1_join_9 : decode cX1_join 9 = .ok (.arraylength, 1) := by decide +kernel
theorem dX1_join_10 : decode cX1_join 10 = .ok (.if_icmp .ge 14, 3) := by decide +kernel
theorem dX1_join_13 : decode cX1_join 13 = .ok (.aload_n 0, 1) := by decide +kernel
theorem dX1_join_14 : decode cX1_join 14 = .ok (.getfield 21, 3) := by decide +kernel
theorem dX1_join_17 : decode cX1_join 17 = .ok (.iload_n 1, 1) := by decide +kernel
theorem dX1_join_18 : decode cX1_join 18 = .ok (.iaload, 1) := by decide +kernel
theorem dX1_join_19 : decode cX1_join 19 = .ok (.bipush (-2), 2) := by decide +kernel
theorem dX1_join_21 : decode cX1_join 21 = .ok (.if_icmp .eq 4, 3) := by decide +kernel
theorem dX1_join_24 : decode cX1_join 24 = .ok (.return_, 1) := by decide +kernel
theorem dX1_join_25 : decode cX1_join 25 = .ok (.aload_n 0, 1) := by decide +kernel
theorem dX1_join_26 : decode cX1_join 26 = .ok (.getfield 21, 3) := by decide +kernel
theorem dX1_join_29 : decode cX1_join 29 = .ok (.iload_n 1, 1) := by decide +kernel
theorem dX1_join_30 : decode cX1_join 30 = .ok (.iload_n 2, 1) := by decide +kernel
theorem dX1_join_31 : decode cX1_join 31 = .ok (.iastore, 1) := by decide +kernel
theorem dX1_join_32 : decode cX1_join 32 = .ok (.aload_n 0, 1) := by decide +kernel
theorem dX1_join_33 : decode cX1_join 33 = .ok (.getfield 46, 3) := by decide +kernel
theorem dX1_join_36 : decode cX1_join 36 = .ok (.ifCond .lt 35, 3) := by decide +kernel
theorem dX1_join_39 : decode cX1_join 39 = .ok (.aload_n 0, 1) := by decide +kernel
theorem dX1_join_40 : decode cX1_join 40 = .ok (.getfield 46, 3) := by decide +kernel
theorem dX1_join_43 : decode cX1_join 43 = .ok (.aload_n 0, 1) := by decide +kernel
theorem dX1_join_44 : decode cX1_join 44 = .ok (.getfield 25, 3) := by decide +kernel
theorem dX1_join_47 : decode cX1_join 47 = .ok (.arraylength, 1) := by decide +kernel
theorem dX1_join_48 : decode cX1_join 48 = .ok (.if_icmp .ge 23, 3) := by decide +kernel
theorem dX1_join_51 : decode cX1_join 51 = .ok (.aload_n 0, 1) := by decide +kernel
theorem dX1_join_52 : decode cX1_join 52 = .ok (.getfield 25, 3) := by decide +kernel
theorem dX1_join_55 : decode cX1_join 55 = .ok (.aload_n 0, 1) := by decide +kernel
theorem dX1_join_56 : decode cX1_join 56 = .ok (.getfield 46, 3) := by decide +kernel
theorem dX1_join_59 : decode cX1_join 59 = .ok (.iload_n 1, 1) := by decide +kernel
theorem dX1_join_60 : decode cX1_join 60 = .ok (.iastore, 1) := by decide +kernel
theorem dX1_join_61 : decode cX1_join 61 = .ok (.aload_n 0, 1) := by decide +kernel
theorem dX1_join_62 : decode cX1_join 62 = .ok (.dup, 1) := by decide +kernel
theorem dX1_join_63 : decode cX1_join 63 = .ok (.getfield 46, 3) := by decide +kernel
theorem dX1_join_66 : decode cX1_join 66 = .ok (.iconst 1, 1) := by decide +kernel
theorem dX1_join_67 : decode cX1_join 67 = .ok (.iadd, 1) := by decide +kernel
theorem dX1_join_68 : decode cX1_join 68 = .ok (.putfield 46, 3) := by decide +kernel
theorem dX1_join_71 : decode cX1_join 71 = .ok (.return_, 1) := by decide +kernel
theorem dX1_count_0 : decode cX1_count 0 = .ok (.iconst 0, 1) := by decide +kernel
theorem dX1_count_1 : decode cX1_count 1 = .ok (.istore_n 1, 1) := by decide +kernel
theorem dX1_count_2 : decode cX1_count 2 = .ok (.iconst 0, 1) := by decide +kernel
theorem dX1_count_3 : decode cX1_count 3 = .ok (.istore_n 2, 1) := by decide +kernel
theorem dX1_count_4 : decode cX1_count 4 = .ok (.iload_n 2, 1) := by decide +kernel
theorem dX1_count_5 : decode cX1_count 5 = .ok (.aload_n 0, 1) := by decide +kernel
theorem dX1_count_6 : decode cX1_count 6 = .ok (.getfield 21, 3) := by decide +kernel
theorem dX1_count_9 : decode cX1_count 9 = .ok (.arraylength, 1) := by decide +kernel
theorem dX1_count_10 : decode cX1_count 10 = .ok (.if_icmp .ge 22, 3) := by decide +kernel
theorem dX1_count_13 : decode cX1_count 13 = .ok (.aload_n 0, 1) := by decide +kernel
theorem dX1_count_14 : decode cX1_count 14 = .ok (.getfield 21, 3) := by decide +kernel
theorem dX1_count_17 : decode cX1_count 17 = .ok (.iload_n 2, 1) := by decide +kernel
theorem dX1_count_18 : decode cX1_count 18 = .ok (.iaload, 1) := by decide +kernel
theorem dX1_count_19 : decode cX1_count 19 = .ok (.iload_n 2, 1) := by decide +kernel
theorem dX1_count_20 : decode cX1_count 20 = .ok (.if_icmp .ne 6, 3) := by decide +kernel
theorem dX1_count_23 : decode cX1_count 23 = .ok (.iinc 1 1, 3) := by decide +kernel
theorem dX1_count_26 : decode cX1_count 26 = .ok (.iinc 2 1, 3) := by decide +kernel
theorem dX1_count_29 : decode cX1_count 29 = .ok (.goto (-25), 3) := by decide +kernel
theorem dX1_count_32 : decode cX1_count 32 = .ok (.iload_n 1, 1) := by decide +kernel
theorem dX1_count_33 : decode cX1_count 33 = .ok (.ireturn, 1) := by decide +kernel
set_option maxRecDepth 20000 in
theorem ggX1_countAlsoIn_X1_markTorn : GoodIn wsX1_countAlsoIn wsX1_markTorn := goodIn_r _ [7, 2, 1, 8, 9, 10, 6, 11, 12, 13, 14, 15, 16, 17, 18] (by decide +kernel) (by decide +kernel)
set_option maxRecDepth 20000 in
theorem gX1_countAlsoIn_X1_markTorn : GoodIn wsX1_countAlsoIn (wsV RX1 53 RX1 yX1_markTorn wsX1_markTorn) := goodIn_app (goodIn_of _ (by decide +kernel)) ggX1_countAlsoIn_X1_markTorn
theorem dX1_countAlsoIn_0 : decode cX1_countAlsoIn 0 = .ok (.aload_n 0, 1) := by decide +kernel
theorem dX1_countAlsoIn_1 : decode cX1_countAlsoIn 1 = .ok (.aload_n 1, 1) := by decide +kernel
theorem dX1_countAlsoIn_2 : decode cX1_countAlsoIn 2 = .ok (.invokevirtual 53, 3) := by decide +kernel
theorem dX1_countAlsoIn_5 : decode cX1_countAlsoIn 5 = .ok (.iconst 0, 1) := by decide +kernel
theorem dX1_countAlsoIn_6 : decode cX1_countAlsoIn 6 = .ok (.istore_n 2, 1) := by decide +kernel
theorem dX1_countAlsoIn_7 : decode cX1_countAlsoIn 7 = .ok (.iconst 0, 1) := by decide +kernel
theorem dX1_countAlsoIn_8 : decode cX1_countAlsoIn 8 = .ok (.istore_n 3, 1) := by decide +kernel
theorem dX1_countAlsoIn_9 : decode cX1_countAlsoIn 9 = .ok (.iload_n 3, 1) := by decide +kernel
theorem dX1_countAlsoIn_10 : decode cX1_countAlsoIn 10 = .ok (.aload_n 0, 1) := by decide +kernel
theorem dX1_countAlsoIn_11 : decode cX1_countAlsoIn 11 = .ok (.getfield 21, 3) := by decide +kernel
theorem dX1_countAlsoIn_14 : decode cX1_countAlsoIn 14 = .ok (.arraylength, 1) := by decide +kernel
theorem dX1_countAlsoIn_15 : decode cX1_countAlsoIn 15 = .ok (.if_icmp .ge 40, 3) := by decide +kernel
theorem dX1_countAlsoIn_18 : decode cX1_countAlsoIn 18 = .ok (.iload_n 3, 1) := by decide +kernel
theorem dX1_countAlsoIn_19 : decode cX1_countAlsoIn 19 = .ok (.aload_n 0, 1) := by decide +kernel
theorem dX1_countAlsoIn_20 : decode cX1_countAlsoIn 20 = .ok (.getfield 28, 3) := by decide +kernel
theorem dX1_countAlsoIn_23 : decode cX1_countAlsoIn 23 = .ok (.arraylength, 1) := by decide +kernel
theorem dX1_countAlsoIn_24 : decode cX1_countAlsoIn 24 = .ok (.if_icmp .ge 31, 3) := by decide +kernel
theorem dX1_countAlsoIn_27 : decode cX1_countAlsoIn 27 = .ok (.aload_n 0, 1) := by decide +kernel
theorem dX1_countAlsoIn_28 : decode cX1_countAlsoIn 28 = .ok (.getfield 21, 3) := by decide +kernel
theorem dX1_countAlsoIn_31 : decode cX1_countAlsoIn 31 = .ok (.iload_n 3, 1) := by decide +kernel
theorem dX1_countAlsoIn_32 : decode cX1_countAlsoIn 32 = .ok (.iaload, 1) := by decide +kernel
theorem dX1_countAlsoIn_33 : decode cX1_countAlsoIn 33 = .ok (.iload_n 3, 1) := by decide +kernel
theorem dX1_countAlsoIn_34 : decode cX1_countAlsoIn 34 = .ok (.if_icmp .ne 15, 3) := by decide +kernel
theorem dX1_countAlsoIn_37 : decode cX1_countAlsoIn 37 = .ok (.aload_n 0, 1) := by decide +kernel
theorem dX1_countAlsoIn_38 : decode cX1_countAlsoIn 38 = .ok (.getfield 28, 3) := by decide +kernel
theorem dX1_countAlsoIn_41 : decode cX1_countAlsoIn 41 = .ok (.iload_n 3, 1) := by decide +kernel
theorem dX1_countAlsoIn_42 : decode cX1_countAlsoIn 42 = .ok (.baload, 1) := by decide +kernel
theorem dX1_countAlsoIn_43 : decode cX1_countAlsoIn 43 = .ok (.ifCond .ne 6, 3) := by decide +kernel
theorem dX1_countAlsoIn_46 : decode cX1_countAlsoIn 46 = .ok (.iinc 2 1, 3) := by decide +kernel
theorem dX1_countAlsoIn_49 : decode cX1_countAlsoIn 49 = .ok (.iinc 3 1, 3) := by decide +kernel
theorem dX1_countAlsoIn_52 : decode cX1_countAlsoIn 52 = .ok (.goto (-43), 3) := by decide +kernel
theorem dX1_countAlsoIn_55 : decode cX1_countAlsoIn 55 = .ok (.iload_n 2, 1) := by decide +kernel
theorem dX1_countAlsoIn_56 : decode cX1_countAlsoIn 56 = .ok (.ireturn, 1) := by decide +kernel
set_option maxRecDepth 20000 in
theorem ggX1_markTorn_X1_tear : GoodIn wsX1_markTorn wsX1_tear := goodIn_r _ [7, 1, 8, 9, 10, 11, 12, 13, 14] (by decide +kernel) (by decide +kernel)
set_option maxRecDepth 20000 in
theorem gX1_markTorn_X1_tear : GoodIn wsX1_markTorn (wsV RX1 57 RX1 yX1_tear wsX1_tear) := goodIn_app (goodIn_of _ (by decide +kernel)) ggX1_markTorn_X1_tear
theorem dX1_markTorn_0 : decode cX1_markTorn 0 = .ok (.iconst 0, 1) := by decide +kernel
theorem dX1_markTorn_1 : decode cX1_markTorn 1 = .ok (.istore_n 2, 1) := by decide +kernel
theorem dX1_markTorn_2 : decode cX1_markTorn 2 = .ok (.iload_n 2, 1) := by decide +kernel
theorem dX1_markTorn_3 : decode cX1_markTorn 3 = .ok (.aload_n 0, 1) := by decide +kernel
theorem dX1_markTorn_4 : decode cX1_markTorn 4 = .ok (.getfield 28, 3) := by decide +kernel
theorem dX1_markTorn_7 : decode cX1_markTorn 7 = .ok (.arraylength, 1) := by decide +kernel
theorem dX1_markTorn_8 : decode cX1_markTorn 8 = .ok (.if_icmp .ge 16, 3) := by decide +kernel
theorem dX1_markTorn_11 : decode cX1_markTorn 11 = .ok (.aload_n 0, 1) := by decide +kernel
theorem dX1_markTorn_12 : decode cX1_markTorn 12 = .ok (.getfield 28, 3) := by decide +kernel
theorem dX1_markTorn_15 : decode cX1_markTorn 15 = .ok (.iload_n 2, 1) := by decide +kernel
theorem dX1_markTorn_16 : decode cX1_markTorn 16 = .ok (.iconst 0, 1) := by decide +kernel
theorem dX1_markTorn_17 : decode cX1_markTorn 17 = .ok (.bastore, 1) := by decide +kernel
theorem dX1_markTorn_18 : decode cX1_markTorn 18 = .ok (.iinc 2 1, 3) := by decide +kernel
theorem dX1_markTorn_21 : decode cX1_markTorn 21 = .ok (.goto (-19), 3) := by decide +kernel
theorem dX1_markTorn_24 : decode cX1_markTorn 24 = .ok (.iconst 0, 1) := by decide +kernel
theorem dX1_markTorn_25 : decode cX1_markTorn 25 = .ok (.istore_n 2, 1) := by decide +kernel
theorem dX1_markTorn_26 : decode cX1_markTorn 26 = .ok (.iload_n 2, 1) := by decide +kernel
theorem dX1_markTorn_27 : decode cX1_markTorn 27 = .ok (.aload_n 0, 1) := by decide +kernel
theorem dX1_markTorn_28 : decode cX1_markTorn 28 = .ok (.getfield 21, 3) := by decide +kernel
theorem dX1_markTorn_31 : decode cX1_markTorn 31 = .ok (.arraylength, 1) := by decide +kernel
theorem dX1_markTorn_32 : decode cX1_markTorn 32 = .ok (.if_icmp .ge 53, 3) := by decide +kernel
theorem dX1_markTorn_35 : decode cX1_markTorn 35 = .ok (.iload_n 2, 1) := by decide +kernel
theorem dX1_markTorn_36 : decode cX1_markTorn 36 = .ok (.aload_n 1, 1) := by decide +kernel
theorem dX1_markTorn_37 : decode cX1_markTorn 37 = .ok (.getfield 21, 3) := by decide +kernel
theorem dX1_markTorn_40 : decode cX1_markTorn 40 = .ok (.arraylength, 1) := by decide +kernel
theorem dX1_markTorn_41 : decode cX1_markTorn 41 = .ok (.if_icmp .ge 44, 3) := by decide +kernel
theorem dX1_markTorn_44 : decode cX1_markTorn 44 = .ok (.aload_n 0, 1) := by decide +kernel
theorem dX1_markTorn_45 : decode cX1_markTorn 45 = .ok (.getfield 21, 3) := by decide +kernel
theorem dX1_markTorn_48 : decode cX1_markTorn 48 = .ok (.iload_n 2, 1) := by decide +kernel
theorem dX1_markTorn_49 : decode cX1_markTorn 49 = .ok (.iaload, 1) := by decide +kernel
theorem dX1_markTorn_50 : decode cX1_markTorn 50 = .ok (.aload_n 1, 1) := by decide +kernel
theorem dX1_markTorn_51 : decode cX1_markTorn 51 = .ok (.getfield 21, 3) := by decide +kernel
theorem dX1_markTorn_54 : decode cX1_markTorn 54 = .ok (.iload_n 2, 1) := by decide +kernel
theorem dX1_markTorn_55 : decode cX1_markTorn 55 = .ok (.iaload, 1) := by decide +kernel
theorem dX1_markTorn_56 : decode cX1_markTorn 56 = .ok (.if_icmp .eq 23, 3) := by decide +kernel
theorem dX1_markTorn_59 : decode cX1_markTorn 59 = .ok (.aload_n 0, 1) := by decide +kernel
theorem dX1_markTorn_60 : decode cX1_markTorn 60 = .ok (.aload_n 0, 1) := by decide +kernel
theorem dX1_markTorn_61 : decode cX1_markTorn 61 = .ok (.getfield 21, 3) := by decide +kernel
theorem dX1_markTorn_64 : decode cX1_markTorn 64 = .ok (.iload_n 2, 1) := by decide +kernel
theorem dX1_markTorn_65 : decode cX1_markTorn 65 = .ok (.iaload, 1) := by decide +kernel
theorem dX1_markTorn_66 : decode cX1_markTorn 66 = .ok (.invokevirtual 57, 3) := by decide +kernel
theorem dX1_markTorn_69 : decode cX1_markTorn 69 = .ok (.aload_n 0, 1) := by decide +kernel
theorem dX1_markTorn_70 : decode cX1_markTorn 70 = .ok (.aload_n 1, 1) := by decide +kernel
theorem dX1_markTorn_71 : decode cX1_markTorn 71 = .ok (.getfield 21, 3) := by decide +kernel
theorem dX1_markTorn_74 : decode cX1_markTorn 74 = .ok (.iload_n 2, 1) := by decide +kernel
theorem dX1_markTorn_75 : decode cX1_markTorn 75 = .ok (.iaload, 1) := by decide +kernel
theorem dX1_markTorn_76 : decode cX1_markTorn 76 = .ok (.invokevirtual 57, 3) := by decide +kernel
theorem dX1_markTorn_79 : decode cX1_markTorn 79 = .ok (.iinc 2 1, 3) := by decide +kernel
theorem dX1_markTorn_82 : decode cX1_markTorn 82 = .ok (.goto (-56), 3) := by decide +kernel
theorem dX1_markTorn_85 : decode cX1_markTorn 85 = .ok (.return_, 1) := by decide +kernel
theorem dX1_tear_0 : decode cX1_tear 0 = .ok (.iload_n 1, 1) := by decide +kernel
theorem dX1_tear_1 : decode cX1_tear 1 = .ok (.ifCond .lt 19, 3) := by decide +kernel
theorem dX1_tear_4 : decode cX1_tear 4 = .ok (.iload_n 1, 1) := by decide +kernel
theorem dX1_tear_5 : decode cX1_tear 5 = .ok (.aload_n 0, 1) := by decide +kernel
theorem dX1_tear_6 : decode cX1_tear 6 = .ok (.getfield 28, 3) := by decide +kernel
theorem dX1_tear_9 : decode cX1_tear 9 = .ok (.arraylength, 1) := by decide +kernel
theorem dX1_tear_10 : decode cX1_tear 10 = .ok (.if_icmp .ge 10, 3) := by decide +kernel
theorem dX1_tear_13 : decode cX1_tear 13 = .ok (.aload_n 0, 1) := by decide +kernel
theorem dX1_tear_14 : decode cX1_tear 14 = .ok (.getfield 28, 3) := by decide +kernel
theorem dX1_tear_17 : decode cX1_tear 17 = .ok (.iload_n 1, 1) := by decide +kernel
theorem dX1_tear_18 : decode cX1_tear 18 = .ok (.iconst 1, 1) := by decide +kernel
theorem dX1_tear_19 : decode cX1_tear 19 = .ok (.bastore, 1) := by decide +kernel
theorem dX1_tear_20 : decode cX1_tear 20 = .ok (.return_, 1) := by decide +kernel
theorem dX2_init_0 : decode cX2_init 0 = .ok (.aload_n 0, 1) := by decide +kernel
theorem dX2_init_1 : decode cX2_init 1 = .ok (.invokespecial 3, 3) := by decide +kernel
theorem dX2_init_4 : decode cX2_init 4 = .ok (.aload_n 0, 1) := by decide +kernel
theorem dX2_init_5 : decode cX2_init 5 = .ok (.iload_n 2, 1) := by decide +kernel
theorem dX2_init_6 : decode cX2_init 6 = .ok (.putfield 9, 3) := by decide +kernel
theorem dX2_init_9 : decode cX2_init 9 = .ok (.aload_n 0, 1) := by decide +kernel
theorem dX2_init_10 : decode cX2_init 10 = .ok (.iload_n 1, 1) := by decide +kernel
theorem dX2_init_11 : decode cX2_init 11 = .ok (.iload_n 2, 1) := by decide +kernel
theorem dX2_init_12 : decode cX2_init 12 = .ok (.imul, 1) := by decide +kernel
theorem dX2_init_13 : decode cX2_init 13 = .ok (.newarray .int, 2) := by decide +kernel
theorem dX2_init_15 : decode cX2_init 15 = .ok (.putfield 15, 3) := by decide +kernel
theorem dX2_init_18 : decode cX2_init 18 = .ok (.return_, 1) := by decide +kernel
theorem dX2_replace_0 : decode cX2_replace 0 = .ok (.iload_n 1, 1) := by decide +kernel
