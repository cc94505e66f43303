theorem dX5_ranked_79 : decode cX5_ranked 79 = .ok (.iload_n 1, 1) := by decide +kernel
theorem dX5_ranked_80 : decode cX5_ranked 80 = .ok (.imul, 1) := by decide +kernel
theorem dX5_ranked_81 : decode cX5_ranked 81 = .ok (.iload_n 3, 1) := by decide +kernel
theorem dX5_ranked_82 : decode cX5_ranked 82 = .ok (.iadd, 1) := by decide +kernel
theorem dX5_ranked_83 : decode cX5_ranked 83 = .ok (.daload, 1) := by decide +kernel
theorem dX5_ranked_84 : decode cX5_ranked 84 = .ok (.dstore 4, 2) := by decide +kernel
theorem dX5_ranked_86 : decode cX5_ranked 86 = .ok (.iload_n 3, 1) := by decide +kernel
theorem dX5_ranked_87 : decode cX5_ranked 87 = .ok (.istore 6, 2) := by decide +kernel
theorem dX5_ranked_89 : decode cX5_ranked 89 = .ok (.iload 6, 2) := by decide +kernel
theorem dX5_ranked_91 : decode cX5_ranked 91 = .ok (.ifCond .le 40, 3) := by decide +kernel
theorem dX5_ranked_94 : decode cX5_ranked 94 = .ok (.aload_n 0, 1) := by decide +kernel
theorem dX5_ranked_95 : decode cX5_ranked 95 = .ok (.getfield 35, 3) := by decide +kernel
theorem dX5_ranked_98 : decode cX5_ranked 98 = .ok (.iload 6, 2) := by decide +kernel
theorem dX5_ranked_100 : decode cX5_ranked 100 = .ok (.iconst 1, 1) := by decide +kernel
theorem dX5_ranked_101 : decode cX5_ranked 101 = .ok (.isub, 1) := by decide +kernel
theorem dX5_ranked_102 : decode cX5_ranked 102 = .ok (.daload, 1) := by decide +kernel
theorem dX5_ranked_103 : decode cX5_ranked 103 = .ok (.dload 4, 2) := by decide +kernel
theorem dX5_ranked_105 : decode cX5_ranked 105 = .ok (.dcmp .l, 1) := by decide +kernel
theorem dX5_ranked_106 : decode cX5_ranked 106 = .ok (.ifCond .le 25, 3) := by decide +kernel
theorem dX5_ranked_109 : decode cX5_ranked 109 = .ok (.aload_n 0, 1) := by decide +kernel
theorem dX5_ranked_110 : decode cX5_ranked 110 = .ok (.getfield 35, 3) := by decide +kernel
theorem dX5_ranked_113 : decode cX5_ranked 113 = .ok (.iload 6, 2) := by decide +kernel
theorem dX5_ranked_115 : decode cX5_ranked 115 = .ok (.aload_n 0, 1) := by decide +kernel
theorem dX5_ranked_116 : decode cX5_ranked 116 = .ok (.getfield 35, 3) := by decide +kernel
theorem dX5_ranked_119 : decode cX5_ranked 119 = .ok (.iload 6, 2) := by decide +kernel
theorem dX5_ranked_121 : decode cX5_ranked 121 = .ok (.iconst 1, 1) := by decide +kernel
theorem dX5_ranked_122 : decode cX5_ranked 122 = .ok (.isub, 1) := by decide +kernel
theorem dX5_ranked_123 : decode cX5_ranked 123 = .ok (.daload, 1) := by decide +kernel
theorem dX5_ranked_124 : decode cX5_ranked 124 = .ok (.dastore, 1) := by decide +kernel
theorem dX5_ranked_125 : decode cX5_ranked 125 = .ok (.iinc 6 (-1), 3) := by decide +kernel
theorem dX5_ranked_128 : decode cX5_ranked 128 = .ok (.goto (-39), 3) := by decide +kernel
theorem dX5_ranked_131 : decode cX5_ranked 131 = .ok (.aload_n 0, 1) := by decide +kernel
theorem dX5_ranked_132 : decode cX5_ranked 132 = .ok (.getfield 35, 3) := by decide +kernel
theorem dX5_ranked_135 : decode cX5_ranked 135 = .ok (.iload 6, 2) := by decide +kernel
theorem dX5_ranked_137 : decode cX5_ranked 137 = .ok (.dload 4, 2) := by decide +kernel
theorem dX5_ranked_139 : decode cX5_ranked 139 = .ok (.dastore, 1) := by decide +kernel
theorem dX5_ranked_140 : decode cX5_ranked 140 = .ok (.iinc 3 1, 3) := by decide +kernel
theorem dX5_ranked_143 : decode cX5_ranked 143 = .ok (.goto (-81), 3) := by decide +kernel
theorem dX5_ranked_146 : decode cX5_ranked 146 = .ok (.aload_n 0, 1) := by decide +kernel
theorem dX5_ranked_147 : decode cX5_ranked 147 = .ok (.getfield 35, 3) := by decide +kernel
theorem dX5_ranked_150 : decode cX5_ranked 150 = .ok (.iload_n 2, 1) := by decide +kernel
theorem dX5_ranked_151 : decode cX5_ranked 151 = .ok (.daload, 1) := by decide +kernel
theorem dX5_ranked_152 : decode cX5_ranked 152 = .ok (.dreturn, 1) := by decide +kernel
set_option maxRecDepth 20000 in
theorem ggX5_wins_X5_in : GoodIn wsX5_wins wsX5_in := goodIn_r _ [7] (by decide +kernel) (by decide +kernel)
set_option maxRecDepth 20000 in
theorem gX5_wins_X5_in : GoodIn wsX5_wins (va_wsS RX5 51 yX5_in wsX5_in) := goodIn_app (goodIn_of _ (by decide +kernel)) ggX5_wins_X5_in
theorem dX5_wins_0 : decode cX5_wins 0 = .ok (.aload_n 0, 1) := by decide +kernel
theorem dX5_wins_1 : decode cX5_wins 1 = .ok (.iload_n 1, 1) := by decide +kernel
theorem dX5_wins_2 : decode cX5_wins 2 = .ok (.iconst 0, 1) := by decide +kernel
theorem dX5_wins_3 : decode cX5_wins 3 = .ok (.bipush 7, 2) := by decide +kernel
theorem dX5_wins_5 : decode cX5_wins 5 = .ok (.invokestatic 51, 3) := by decide +kernel
theorem dX5_wins_8 : decode cX5_wins 8 = .ok (.ifCond .eq 17, 3) := by decide +kernel
theorem dX5_wins_11 : decode cX5_wins 11 = .ok (.iload_n 2, 1) := by decide +kernel
theorem dX5_wins_12 : decode cX5_wins 12 = .ok (.iconst 0, 1) := by decide +kernel
theorem dX5_wins_13 : decode cX5_wins 13 = .ok (.bipush 7, 2) := by decide +kernel
theorem dX5_wins_15 : decode cX5_wins 15 = .ok (.invokestatic 51, 3) := by decide +kernel
theorem dX5_wins_18 : decode cX5_wins 18 = .ok (.ifCond .eq 7, 3) := by decide +kernel
theorem dX5_wins_21 : decode cX5_wins 21 = .ok (.iconst 0, 1) := by decide +kernel
theorem dX5_wins_22 : decode cX5_wins 22 = .ok (.goto 4, 3) := by decide +kernel
theorem dX5_wins_25 : decode cX5_wins 25 = .ok (.iconst 1, 1) := by decide +kernel
theorem dX5_wins_26 : decode cX5_wins 26 = .ok (.putfield 48, 3) := by decide +kernel
theorem dX5_wins_29 : decode cX5_wins 29 = .ok (.iconst 0, 1) := by decide +kernel
theorem dX5_wins_30 : decode cX5_wins 30 = .ok (.istore_n 3, 1) := by decide +kernel
theorem dX5_wins_31 : decode cX5_wins 31 = .ok (.iconst 0, 1) := by decide +kernel
theorem dX5_wins_32 : decode cX5_wins 32 = .ok (.istore 4, 2) := by decide +kernel
theorem dX5_wins_34 : decode cX5_wins 34 = .ok (.aload_n 0, 1) := by decide +kernel
theorem dX5_wins_35 : decode cX5_wins 35 = .ok (.getfield 48, 3) := by decide +kernel
theorem dX5_wins_38 : decode cX5_wins 38 = .ok (.ifCond .ne 89, 3) := by decide +kernel
theorem dX5_wins_41 : decode cX5_wins 41 = .ok (.iload 4, 2) := by decide +kernel
theorem dX5_wins_43 : decode cX5_wins 43 = .ok (.aload_n 0, 1) := by decide +kernel
theorem dX5_wins_44 : decode cX5_wins 44 = .ok (.getfield 28, 3) := by decide +kernel
theorem dX5_wins_47 : decode cX5_wins 47 = .ok (.iload_n 1, 1) := by decide +kernel
theorem dX5_wins_48 : decode cX5_wins 48 = .ok (.iaload, 1) := by decide +kernel
theorem dX5_wins_49 : decode cX5_wins 49 = .ok (.if_icmp .ge 78, 3) := by decide +kernel
theorem dX5_wins_52 : decode cX5_wins 52 = .ok (.iload 4, 2) := by decide +kernel
theorem dX5_wins_54 : decode cX5_wins 54 = .ok (.aload_n 0, 1) := by decide +kernel
theorem dX5_wins_55 : decode cX5_wins 55 = .ok (.getfield 28, 3) := by decide +kernel
theorem dX5_wins_58 : decode cX5_wins 58 = .ok (.iload_n 2, 1) := by decide +kernel
theorem dX5_wins_59 : decode cX5_wins 59 = .ok (.iaload, 1) := by decide +kernel
theorem dX5_wins_60 : decode cX5_wins 60 = .ok (.if_icmp .ge 67, 3) := by decide +kernel
theorem dX5_wins_63 : decode cX5_wins 63 = .ok (.aload_n 0, 1) := by decide +kernel
theorem dX5_wins_64 : decode cX5_wins 64 = .ok (.getfield 31, 3) := by decide +kernel
theorem dX5_wins_67 : decode cX5_wins 67 = .ok (.sipush 200, 3) := by decide +kernel
theorem dX5_wins_70 : decode cX5_wins 70 = .ok (.iload_n 1, 1) := by decide +kernel
theorem dX5_wins_71 : decode cX5_wins 71 = .ok (.imul, 1) := by decide +kernel
theorem dX5_wins_72 : decode cX5_wins 72 = .ok (.iload 4, 2) := by decide +kernel
theorem dX5_wins_74 : decode cX5_wins 74 = .ok (.iadd, 1) := by decide +kernel
theorem dX5_wins_75 : decode cX5_wins 75 = .ok (.daload, 1) := by decide +kernel
theorem dX5_wins_76 : decode cX5_wins 76 = .ok (.dstore 5, 2) := by decide +kernel
theorem dX5_wins_78 : decode cX5_wins 78 = .ok (.aload_n 0, 1) := by decide +kernel
theorem dX5_wins_79 : decode cX5_wins 79 = .ok (.getfield 31, 3) := by decide +kernel
theorem dX5_wins_82 : decode cX5_wins 82 = .ok (.sipush 200, 3) := by decide +kernel
theorem dX5_wins_85 : decode cX5_wins 85 = .ok (.iload_n 2, 1) := by decide +kernel
theorem dX5_wins_86 : decode cX5_wins 86 = .ok (.imul, 1) := by decide +kernel
theorem dX5_wins_87 : decode cX5_wins 87 = .ok (.iload 4, 2) := by decide +kernel
theorem dX5_wins_89 : decode cX5_wins 89 = .ok (.iadd, 1) := by decide +kernel
theorem dX5_wins_90 : decode cX5_wins 90 = .ok (.daload, 1) := by decide +kernel
theorem dX5_wins_91 : decode cX5_wins 91 = .ok (.dstore 7, 2) := by decide +kernel
theorem dX5_wins_93 : decode cX5_wins 93 = .ok (.iload_n 3, 1) := by decide +kernel
theorem dX5_wins_94 : decode cX5_wins 94 = .ok (.dload 5, 2) := by decide +kernel
theorem dX5_wins_96 : decode cX5_wins 96 = .ok (.dload 7, 2) := by decide +kernel
theorem dX5_wins_98 : decode cX5_wins 98 = .ok (.dcmp .l, 1) := by decide +kernel
theorem dX5_wins_99 : decode cX5_wins 99 = .ok (.ifCond .le 7, 3) := by decide +kernel
theorem dX5_wins_102 : decode cX5_wins 102 = .ok (.iconst 1, 1) := by decide +kernel
theorem dX5_wins_103 : decode cX5_wins 103 = .ok (.goto 16, 3) := by decide +kernel
theorem dX5_wins_106 : decode cX5_wins 106 = .ok (.dload 5, 2) := by decide +kernel
theorem dX5_wins_108 : decode cX5_wins 108 = .ok (.dload 7, 2) := by decide +kernel
theorem dX5_wins_110 : decode cX5_wins 110 = .ok (.dcmp .g, 1) := by decide +kernel
theorem dX5_wins_111 : decode cX5_wins 111 = .ok (.ifCond .ge 7, 3) := by decide +kernel
theorem dX5_wins_114 : decode cX5_wins 114 = .ok (.iconst (-1), 1) := by decide +kernel
theorem dX5_wins_115 : decode cX5_wins 115 = .ok (.goto 4, 3) := by decide +kernel
theorem dX5_wins_118 : decode cX5_wins 118 = .ok (.iconst 0, 1) := by decide +kernel
theorem dX5_wins_119 : decode cX5_wins 119 = .ok (.iadd, 1) := by decide +kernel
theorem dX5_wins_120 : decode cX5_wins 120 = .ok (.istore_n 3, 1) := by decide +kernel
theorem dX5_wins_121 : decode cX5_wins 121 = .ok (.iinc 4 1, 3) := by decide +kernel
theorem dX5_wins_124 : decode cX5_wins 124 = .ok (.goto (-90), 3) := by decide +kernel
theorem dX5_wins_127 : decode cX5_wins 127 = .ok (.iload_n 3, 1) := by decide +kernel
theorem dX5_wins_128 : decode cX5_wins 128 = .ok (.ireturn, 1) := by decide +kernel
set_option maxRecDepth 20000 in
theorem ggX5_told_X5_makeGrey : GoodIn wsX5_told wsX5_makeGrey := goodIn_r _ [11, 4, 12, 5, 13, 14, 2, 15, 16, 17, 10, 18, 19, 20, 21, 22, 23, 24, 6, 48, 49, 50, 51, 52, 53, 54, 55, 56, 57, 58, 59, 60, 61, 62] (by decide +kernel) (by decide +kernel)
set_option maxRecDepth 20000 in
theorem gX5_told_X5_makeGrey : GoodIn wsX5_told (wsV RX5 91 RX5 yX5_makeGrey wsX5_makeGrey) := goodIn_app (goodIn_of _ (by decide +kernel)) ggX5_told_X5_makeGrey
set_option maxRecDepth 20000 in
theorem ggX5_told_X5_number : GoodIn wsX5_told wsX5_number := goodIn_r _ [28, 5, 4, 15, 16, 17, 10, 18, 29, 30, 31, 32, 33, 34, 35, 36, 37, 38, 39, 48, 49, 50, 51, 52, 53, 54, 55, 56, 57, 58, 59, 60, 61, 62] (by decide +kernel) (by decide +kernel)
set_option maxRecDepth 20000 in
theorem gX5_told_X5_number : GoodIn wsX5_told (wsV RX5 105 RX5 yX5_number wsX5_number) := goodIn_app (goodIn_of _ (by decide +kernel)) ggX5_told_X5_number
set_option maxRecDepth 20000 in
theorem ggX5_told_X5_count : GoodIn wsX5_told wsX5_count := goodIn_r _ [43, 15, 16, 17, 10, 18, 4, 5, 48, 49, 50, 51, 52, 53, 54, 55, 56, 57, 58, 59, 60, 61, 62] (by decide +kernel) (by decide +kernel)
set_option maxRecDepth 20000 in
theorem gX5_told_X5_count : GoodIn wsX5_told (wsV RX5 109 RX5 yX5_count wsX5_count) := goodIn_app (goodIn_of _ (by decide +kernel)) ggX5_told_X5_count
set_option maxRecDepth 20000 in
theorem ggX5_told_X5_scales : GoodIn wsX5_told wsX5_scales := goodIn_r _ [47, 4, 5, 48, 49, 50, 51, 52, 53, 54, 55, 56, 57, 58, 59, 60, 61, 62] (by decide +kernel) (by decide +kernel)
set_option maxRecDepth 20000 in
theorem gX5_told_X5_scales : GoodIn wsX5_told (wsV RX5 88 RX5 yX5_scales wsX5_scales) := goodIn_app (goodIn_of _ (by decide +kernel)) ggX5_told_X5_scales
theorem dX5_told_0 : decode cX5_told 0 = .ok (.aload_n 0, 1) := by decide +kernel
theorem dX5_told_1 : decode cX5_told 1 = .ok (.iconst 0, 1) := by decide +kernel
theorem dX5_told_2 : decode cX5_told 2 = .ok (.putfield 48, 3) := by decide +kernel
theorem dX5_told_5 : decode cX5_told 5 = .ok (.iload_n 1, 1) := by decide +kernel
theorem dX5_told_6 : decode cX5_told 6 = .ok (.iconst 4, 1) := by decide +kernel
theorem dX5_told_7 : decode cX5_told 7 = .ok (.if_icmp .ne 28, 3) := by decide +kernel
theorem dX5_told_10 : decode cX5_told 10 = .ok (.aload_n 0, 1) := by decide +kernel
theorem dX5_told_11 : decode cX5_told 11 = .ok (.invokevirtual 91, 3) := by decide +kernel
theorem dX5_told_14 : decode cX5_told 14 = .ok (.aload_n 0, 1) := by decide +kernel
theorem dX5_told_15 : decode cX5_told 15 = .ok (.aload_n 0, 1) := by decide +kernel
theorem dX5_told_16 : decode cX5_told 16 = .ok (.getfield 19, 3) := by decide +kernel
theorem dX5_told_19 : decode cX5_told 19 = .ok (.aload_n 0, 1) := by decide +kernel
theorem dX5_told_20 : decode cX5_told 20 = .ok (.getfield 25, 3) := by decide +kernel
theorem dX5_told_23 : decode cX5_told 23 = .ok (.invokevirtual 105, 3) := by decide +kernel
theorem dX5_told_26 : decode cX5_told 26 = .ok (.aload_n 0, 1) := by decide +kernel
theorem dX5_told_27 : decode cX5_told 27 = .ok (.aload_n 0, 1) := by decide +kernel
theorem dX5_told_28 : decode cX5_told 28 = .ok (.getfield 25, 3) := by decide +kernel
theorem dX5_told_31 : decode cX5_told 31 = .ok (.invokevirtual 109, 3) := by decide +kernel
theorem dX5_told_34 : decode cX5_told 34 = .ok (.ireturn, 1) := by decide +kernel
theorem dX5_told_35 : decode cX5_told 35 = .ok (.iload_n 1, 1) := by decide +kernel
theorem dX5_told_36 : decode cX5_told 36 = .ok (.ifCond .ne 10, 3) := by decide +kernel
theorem dX5_told_39 : decode cX5_told 39 = .ok (.aload_n 0, 1) := by decide +kernel
theorem dX5_told_40 : decode cX5_told 40 = .ok (.getfield 38, 3) := by decide +kernel
theorem dX5_told_43 : decode cX5_told 43 = .ok (.goto 40, 3) := by decide +kernel
theorem dX5_told_46 : decode cX5_told 46 = .ok (.iload_n 1, 1) := by decide +kernel
theorem dX5_told_47 : decode cX5_told 47 = .ok (.iconst 1, 1) := by decide +kernel
theorem dX5_told_48 : decode cX5_told 48 = .ok (.if_icmp .ne 10, 3) := by decide +kernel
theorem dX5_told_51 : decode cX5_told 51 = .ok (.aload_n 0, 1) := by decide +kernel
theorem dX5_told_52 : decode cX5_told 52 = .ok (.getfield 42, 3) := by decide +kernel
theorem dX5_told_55 : decode cX5_told 55 = .ok (.goto 28, 3) := by decide +kernel
theorem dX5_told_58 : decode cX5_told 58 = .ok (.iload_n 1, 1) := by decide +kernel
theorem dX5_told_59 : decode cX5_told 59 = .ok (.iconst 2, 1) := by decide +kernel
theorem dX5_told_60 : decode cX5_told 60 = .ok (.if_icmp .ne 10, 3) := by decide +kernel
theorem dX5_told_63 : decode cX5_told 63 = .ok (.aload_n 0, 1) := by decide +kernel
theorem dX5_told_64 : decode cX5_told 64 = .ok (.getfield 45, 3) := by decide +kernel
theorem dX5_told_67 : decode cX5_told 67 = .ok (.goto 16, 3) := by decide +kernel
theorem dX5_told_70 : decode cX5_told 70 = .ok (.iload_n 1, 1) := by decide +kernel
theorem dX5_told_71 : decode cX5_told 71 = .ok (.iconst 3, 1) := by decide +kernel
theorem dX5_told_72 : decode cX5_told 72 = .ok (.if_icmp .ne 10, 3) := by decide +kernel
theorem dX5_told_75 : decode cX5_told 75 = .ok (.aload_n 0, 1) := by decide +kernel
theorem dX5_told_76 : decode cX5_told 76 = .ok (.invokevirtual 88, 3) := by decide +kernel
theorem dX5_told_79 : decode cX5_told 79 = .ok (.goto 4, 3) := by decide +kernel
theorem dX5_told_82 : decode cX5_told 82 = .ok (.iconst (-1), 1) := by decide +kernel
theorem dX5_told_83 : decode cX5_told 83 = .ok (.ireturn, 1) := by decide +kernel
theorem dX5_clear_0 : decode cX5_clear 0 = .ok (.aload_n 0, 1) := by decide +kernel
theorem dX5_clear_1 : decode cX5_clear 1 = .ok (.iconst 0, 1) := by decide +kernel
theorem dX5_clear_2 : decode cX5_clear 2 = .ok (.putfield 48, 3) := by decide +kernel
theorem dX5_clear_5 : decode cX5_clear 5 = .ok (.iconst 0, 1) := by decide +kernel
theorem dX5_clear_6 : decode cX5_clear 6 = .ok (.istore_n 1, 1) := by decide +kernel
theorem dX5_clear_7 : decode cX5_clear 7 = .ok (.iload_n 1, 1) := by decide +kernel
theorem dX5_clear_8 : decode cX5_clear 8 = .ok (.sipush 1728, 3) := by decide +kernel
theorem dX5_clear_11 : decode cX5_clear 11 = .ok (.if_icmp .ge 23, 3) := by decide +kernel
theorem dX5_clear_14 : decode cX5_clear 14 = .ok (.aload_n 0, 1) := by decide +kernel
theorem dX5_clear_15 : decode cX5_clear 15 = .ok (.getfield 7, 3) := by decide +kernel
theorem dX5_clear_18 : decode cX5_clear 18 = .ok (.iload_n 1, 1) := by decide +kernel
theorem dX5_clear_19 : decode cX5_clear 19 = .ok (.iconst 0, 1) := by decide +kernel
theorem dX5_clear_20 : decode cX5_clear 20 = .ok (.iastore, 1) := by decide +kernel
theorem dX5_clear_21 : decode cX5_clear 21 = .ok (.aload_n 0, 1) := by decide +kernel
theorem dX5_clear_22 : decode cX5_clear 22 = .ok (.getfield 13, 3) := by decide +kernel
theorem dX5_clear_25 : decode cX5_clear 25 = .ok (.iload_n 1, 1) := by decide +kernel
theorem dX5_clear_26 : decode cX5_clear 26 = .ok (.iconst 0, 1) := by decide +kernel
theorem dX5_clear_27 : decode cX5_clear 27 = .ok (.iastore, 1) := by decide +kernel
theorem dX5_clear_28 : decode cX5_clear 28 = .ok (.iinc 1 1, 3) := by decide +kernel
theorem dX5_clear_31 : decode cX5_clear 31 = .ok (.goto (-24), 3) := by decide +kernel
theorem dX5_clear_34 : decode cX5_clear 34 = .ok (.iconst 0, 1) := by decide +kernel
theorem dX5_clear_35 : decode cX5_clear 35 = .ok (.istore_n 1, 1) := by decide +kernel
theorem dX5_clear_36 : decode cX5_clear 36 = .ok (.iload_n 1, 1) := by decide +kernel
theorem dX5_clear_37 : decode cX5_clear 37 = .ok (.bipush 8, 2) := by decide +kernel
theorem dX5_clear_39 : decode cX5_clear 39 = .ok (.if_icmp .ge 16, 3) := by decide +kernel
theorem dX5_clear_42 : decode cX5_clear 42 = .ok (.aload_n 0, 1) := by decide +kernel
theorem dX5_clear_43 : decode cX5_clear 43 = .ok (.getfield 28, 3) := by decide +kernel
theorem dX5_clear_46 : decode cX5_clear 46 = .ok (.iload_n 1, 1) := by decide +kernel
theorem dX5_clear_47 : decode cX5_clear 47 = .ok (.iconst 0, 1) := by decide +kernel
theorem dX5_clear_48 : decode cX5_clear 48 = .ok (.iastore, 1) := by decide +kernel
theorem dX5_clear_49 : decode cX5_clear 49 = .ok (.iinc 1 1, 3) := by decide +kernel
theorem dX5_clear_52 : decode cX5_clear 52 = .ok (.goto (-16), 3) := by decide +kernel
theorem dX5_clear_55 : decode cX5_clear 55 = .ok (.return_, 1) := by decide +kernel
theorem dJ9_abs_0f7a4_0 : decode cJ9_abs_0f7a4 0 = .ok (.iload_n 0, 1) := by decide +kernel
theorem dJ9_abs_0f7a4_1 : decode cJ9_abs_0f7a4 1 = .ok (.ifCond .ge 8, 3) := by decide +kernel
theorem dJ9_abs_0f7a4_4 : decode cJ9_abs_0f7a4 4 = .ok (.iload_n 0, 1) := by decide +kernel
theorem dJ9_abs_0f7a4_5 : decode cJ9_abs_0f7a4 5 = .ok (.ineg, 1) := by decide +kernel
theorem dJ9_abs_0f7a4_6 : decode cJ9_abs_0f7a4 6 = .ok (.goto 4, 3) := by decide +kernel
theorem dJ9_abs_0f7a4_9 : decode cJ9_abs_0f7a4 9 = .ok (.iload_n 0, 1) := by decide +kernel
theorem dJ9_abs_0f7a4_10 : decode cJ9_abs_0f7a4 10 = .ok (.ireturn, 1) := by decide +kernel
theorem dJ9_max_7cf53_0 : decode cJ9_max_7cf53 0 = .ok (.iload_n 0, 1) := by decide +kernel
theorem dJ9_max_7cf53_1 : decode cJ9_max_7cf53 1 = .ok (.iload_n 1, 1) := by decide +kernel
theorem dJ9_max_7cf53_2 : decode cJ9_max_7cf53 2 = .ok (.if_icmp .lt 7, 3) := by decide +kernel
theorem dJ9_max_7cf53_5 : decode cJ9_max_7cf53 5 = .ok (.iload_n 0, 1) := by decide +kernel
theorem dJ9_max_7cf53_6 : decode cJ9_max_7cf53 6 = .ok (.goto 4, 3) := by decide +kernel
theorem dJ9_max_7cf53_9 : decode cJ9_max_7cf53 9 = .ok (.iload_n 1, 1) := by decide +kernel
theorem dJ9_max_7cf53_10 : decode cJ9_max_7cf53 10 = .ok (.ireturn, 1) := by decide +kernel
theorem dJ9_min_7cf53_0 : decode cJ9_min_7cf53 0 = .ok (.iload_n 0, 1) := by decide +kernel
theorem dJ9_min_7cf53_1 : decode cJ9_min_7cf53 1 = .ok (.iload_n 1, 1) := by decide +kernel
theorem dJ9_min_7cf53_2 : decode cJ9_min_7cf53 2 = .ok (.if_icmp .gt 7, 3) := by decide +kernel
theorem dJ9_min_7cf53_5 : decode cJ9_min_7cf53 5 = .ok (.iload_n 0, 1) := by decide +kernel
theorem dJ9_min_7cf53_6 : decode cJ9_min_7cf53 6 = .ok (.goto 4, 3) := by decide +kernel
theorem dJ9_min_7cf53_9 : decode cJ9_min_7cf53 9 = .ok (.iload_n 1, 1) := by decide +kernel
theorem dJ9_min_7cf53_10 : decode cJ9_min_7cf53 10 = .ok (.ireturn, 1) := by decide +kernel
theorem dL_cell_0 : decode cL_cell 0 = .ok (.iload_n 1, 1) := by decide +kernel
theorem dL_cell_1 : decode cL_cell 1 = .ok (.aload_n 0, 1) := by decide +kernel
theorem dL_cell_2 : decode cL_cell 2 = .ok (.arraylength, 1) := by decide +kernel
theorem dL_cell_3 : decode cL_cell 3 = .ok (.if_icmp .ge 9, 3) := by decide +kernel
theorem dL_cell_6 : decode cL_cell 6 = .ok (.aload_n 0, 1) := by decide +kernel
theorem dL_cell_7 : decode cL_cell 7 = .ok (.iload_n 1, 1) := by decide +kernel
theorem dL_cell_8 : decode cL_cell 8 = .ok (.iaload, 1) := by decide +kernel
theorem dL_cell_9 : decode cL_cell 9 = .ok (.goto 4, 3) := by decide +kernel
theorem dL_cell_12 : decode cL_cell 12 = .ok (.iconst 0, 1) := by decide +kernel
theorem dL_cell_13 : decode cL_cell 13 = .ok (.ireturn, 1) := by decide +kernel
set_option maxRecDepth 20000 in
theorem ggL_put_X4_put : GoodIn wsL_put wsX4_put := goodIn_ca (goodIn_ca (goodIn_r _ [7, 8, 9, 10, 11, 12, 13, 14, 6, 15, 16, 17, 18, 19, 20, 21, 22, 23, 24, 25, 26, 27, 28, 29, 30, 31, 32, 33, 34, 35, 36, 37, 38, 39, 40, 41, 42, 43, 44, 45, 46, 47, 48, 49, 50, 51] (by decide +kernel) (by decide +kernel)) (goodIn_sub (fun _ h => List.mem_cons_of_mem _ (List.mem_append_left _ (List.mem_append_right _ h))) (by decide +kernel))) (goodIn_sub (fun _ h => List.mem_cons_of_mem _ (List.mem_append_right _ h)) (by decide +kernel))
set_option maxRecDepth 20000 in
theorem gL_put_X4_put : GoodIn wsL_put (wsV RL 7 RX4 yX4_put wsX4_put) := goodIn_app (goodIn_of _ (by decide +kernel)) ggL_put_X4_put
theorem dL_put_0 : decode cL_put 0 = .ok (.aload 6, 2) := by decide +kernel
theorem dL_put_2 : decode cL_put 2 = .ok (.iconst 0, 1) := by decide +kernel
theorem dL_put_3 : decode cL_put 3 = .ok (.aload_n 0, 1) := by decide +kernel
theorem dL_put_4 : decode cL_put 4 = .ok (.iload_n 1, 1) := by decide +kernel
theorem dL_put_5 : decode cL_put 5 = .ok (.iload_n 2, 1) := by decide +kernel
theorem dL_put_6 : decode cL_put 6 = .ok (.iload_n 3, 1) := by decide +kernel
theorem dL_put_7 : decode cL_put 7 = .ok (.iload 4, 2) := by decide +kernel
theorem dL_put_9 : decode cL_put 9 = .ok (.iload 5, 2) := by decide +kernel
theorem dL_put_11 : decode cL_put 11 = .ok (.invokevirtual 7, 3) := by decide +kernel
theorem dL_put_14 : decode cL_put 14 = .ok (.i2l, 1) := by decide +kernel
theorem dL_put_15 : decode cL_put 15 = .ok (.lastore, 1) := by decide +kernel
theorem dL_put_16 : decode cL_put 16 = .ok (.goto 11, 3) := by decide +kernel
theorem dL_put_19 : decode cL_put 19 = .ok (.astore 7, 2) := by decide +kernel
theorem dL_put_21 : decode cL_put 21 = .ok (.iconst 1, 1) := by decide +kernel
theorem dL_put_22 : decode cL_put 22 = .ok (.ireturn, 1) := by decide +kernel
theorem dL_put_23 : decode cL_put 23 = .ok (.astore 7, 2) := by decide +kernel
theorem dL_put_25 : decode cL_put 25 = .ok (.iconst 2, 1) := by decide +kernel
theorem dL_put_26 : decode cL_put 26 = .ok (.ireturn, 1) := by decide +kernel
theorem dL_put_27 : decode cL_put 27 = .ok (.iconst 0, 1) := by decide +kernel
theorem dL_put_28 : decode cL_put 28 = .ok (.ireturn, 1) := by decide +kernel
set_option maxRecDepth 20000 in
theorem ggL_squared_X4_squared : GoodIn wsL_squared wsX4_squared := goodIn_ca (goodIn_r _ [6, 7, 8, 9, 10, 11, 12, 13, 14, 15, 5, 16, 17, 18, 19, 20, 21, 22, 23, 24, 25, 26, 27, 28, 29, 30, 31, 32, 33, 34, 35, 36, 37, 38, 39] (by decide +kernel) (by decide +kernel)) (goodIn_sub (fun _ h => List.mem_cons_of_mem _ (List.mem_append_right _ h)) (by decide +kernel))
set_option maxRecDepth 20000 in
theorem gL_squared_X4_squared : GoodIn wsL_squared (wsV RL 17 RX4 yX4_squared wsX4_squared) := goodIn_app (goodIn_of _ (by decide +kernel)) ggL_squared_X4_squared
theorem dL_squared_0 : decode cL_squared 0 = .ok (.aload_n 2, 1) := by decide +kernel
theorem dL_squared_1 : decode cL_squared 1 = .ok (.iconst 0, 1) := by decide +kernel
theorem dL_squared_2 : decode cL_squared 2 = .ok (.aload_n 0, 1) := by decide +kernel
theorem dL_squared_3 : decode cL_squared 3 = .ok (.iload_n 1, 1) := by decide +kernel
theorem dL_squared_4 : decode cL_squared 4 = .ok (.invokevirtual 17, 3) := by decide +kernel
theorem dL_squared_7 : decode cL_squared 7 = .ok (.dastore, 1) := by decide +kernel
theorem dL_squared_8 : decode cL_squared 8 = .ok (.goto 6, 3) := by decide +kernel
theorem dL_squared_11 : decode cL_squared 11 = .ok (.astore_n 3, 1) := by decide +kernel
theorem dL_squared_12 : decode cL_squared 12 = .ok (.iconst 1, 1) := by decide +kernel
theorem dL_squared_13 : decode cL_squared 13 = .ok (.ireturn, 1) := by decide +kernel
theorem dL_squared_14 : decode cL_squared 14 = .ok (.iconst 0, 1) := by decide +kernel
theorem dL_squared_15 : decode cL_squared 15 = .ok (.ireturn, 1) := by decide +kernel
set_option maxRecDepth 20000 in
theorem ggL_grey_X4_grey : GoodIn wsL_grey wsX4_grey := goodIn_ca (goodIn_r _ [6, 7, 8, 9, 10, 11, 5, 12, 13, 14, 15, 16, 17, 18, 19, 20, 21, 22, 23, 24, 25, 26, 27, 28, 29, 30, 31, 32, 33, 34, 35, 36, 37, 38, 39, 40, 41, 42, 43] (by decide +kernel) (by decide +kernel)) (goodIn_sub (fun _ h => List.mem_cons_of_mem _ (List.mem_append_right _ h)) (by decide +kernel))
set_option maxRecDepth 20000 in
theorem gL_grey_X4_grey : GoodIn wsL_grey (wsV RL 21 RX4 yX4_grey wsX4_grey) := goodIn_app (goodIn_of _ (by decide +kernel)) ggL_grey_X4_grey
theorem dL_grey_0 : decode cL_grey 0 = .ok (.aload 4, 2) := by decide +kernel
theorem dL_grey_2 : decode cL_grey 2 = .ok (.iconst 0, 1) := by decide +kernel
theorem dL_grey_3 : decode cL_grey 3 = .ok (.aload_n 0, 1) := by decide +kernel
theorem dL_grey_4 : decode cL_grey 4 = .ok (.iload_n 1, 1) := by decide +kernel
theorem dL_grey_5 : decode cL_grey 5 = .ok (.iload_n 2, 1) := by decide +kernel
theorem dL_grey_6 : decode cL_grey 6 = .ok (.iload_n 3, 1) := by decide +kernel
theorem dL_grey_7 : decode cL_grey 7 = .ok (.invokevirtual 21, 3) := by decide +kernel
theorem dL_grey_10 : decode cL_grey 10 = .ok (.i2l, 1) := by decide +kernel
theorem dL_grey_11 : decode cL_grey 11 = .ok (.lastore, 1) := by decide +kernel
theorem dL_grey_12 : decode cL_grey 12 = .ok (.goto 7, 3) := by decide +kernel
theorem dL_grey_15 : decode cL_grey 15 = .ok (.astore 5, 2) := by decide +kernel
theorem dL_grey_17 : decode cL_grey 17 = .ok (.iconst 1, 1) := by decide +kernel
theorem dL_grey_18 : decode cL_grey 18 = .ok (.ireturn, 1) := by decide +kernel
theorem dL_grey_19 : decode cL_grey 19 = .ok (.iconst 0, 1) := by decide +kernel
theorem dL_grey_20 : decode cL_grey 20 = .ok (.ireturn, 1) := by decide +kernel
set_option maxRecDepth 20000 in
theorem ggL_structure_X4_structure : GoodIn wsL_structure wsX4_structure := goodIn_ca (goodIn_ca (goodIn_r _ [7, 8, 9, 10, 11, 12, 13, 14, 15, 16, 17, 18, 19, 20, 21, 22, 23, 24, 25, 26, 27, 28, 29, 30, 31, 32, 33, 34, 35, 36, 37, 38, 39, 40, 41, 42, 43, 44, 45, 46, 47, 48, 49, 50, 51, 52, 53, 54, 55, 56, 57, 58, 59, 60, 61, 62, 63, 64, 65, 66, 67, 68, 69, 70, 71, 72, 73, 74] (by decide +kernel) (by decide +kernel)) (goodIn_sub (fun _ h => List.mem_cons_of_mem _ (List.mem_append_left _ (List.mem_append_right _ h))) (by decide +kernel))) (goodIn_sub (fun _ h => List.mem_cons_of_mem _ (List.mem_append_right _ h)) (by decide +kernel))
set_option maxRecDepth 20000 in
theorem gL_structure_X4_structure : GoodIn wsL_structure (wsV RL 25 RX4 yX4_structure wsX4_structure) := goodIn_app (goodIn_of _ (by decide +kernel)) ggL_structure_X4_structure
theorem dL_structure_0 : decode cL_structure 0 = .ok (.aload_n 2, 1) := by decide +kernel
theorem dL_structure_1 : decode cL_structure 1 = .ok (.iconst 0, 1) := by decide +kernel
theorem dL_structure_2 : decode cL_structure 2 = .ok (.aload_n 0, 1) := by decide +kernel
theorem dL_structure_3 : decode cL_structure 3 = .ok (.iload_n 1, 1) := by decide +kernel
theorem dL_structure_4 : decode cL_structure 4 = .ok (.invokevirtual 25, 3) := by decide +kernel
theorem dL_structure_7 : decode cL_structure 7 = .ok (.dastore, 1) := by decide +kernel
theorem dL_structure_8 : decode cL_structure 8 = .ok (.goto 9, 3) := by decide +kernel
theorem dL_structure_11 : decode cL_structure 11 = .ok (.astore_n 3, 1) := by decide +kernel
theorem dL_structure_12 : decode cL_structure 12 = .ok (.iconst 1, 1) := by decide +kernel
theorem dL_structure_13 : decode cL_structure 13 = .ok (.ireturn, 1) := by decide +kernel
theorem dL_structure_14 : decode cL_structure 14 = .ok (.astore_n 3, 1) := by decide +kernel
theorem dL_structure_15 : decode cL_structure 15 = .ok (.iconst 2, 1) := by decide +kernel
theorem dL_structure_16 : decode cL_structure 16 = .ok (.ireturn, 1) := by decide +kernel
theorem dL_structure_17 : decode cL_structure 17 = .ok (.iconst 0, 1) := by decide +kernel
theorem dL_structure_18 : decode cL_structure 18 = .ok (.ireturn, 1) := by decide +kernel
set_option maxRecDepth 20000 in
theorem ggL_map_X4_map : GoodIn wsL_map wsX4_map := goodIn_ca (goodIn_r _ [6, 7, 8, 9, 10, 11, 12, 13, 14, 15, 16, 17, 18, 19, 20, 21, 22, 23, 24, 25, 26, 27, 28, 29, 30, 31, 32, 33, 34, 35, 36, 37, 38, 39, 40, 41, 42, 43, 44, 45, 46, 47, 48, 49, 50, 51, 52, 53, 54, 55, 56, 57, 58, 59, 60] (by decide +kernel) (by decide +kernel)) (goodIn_sub (fun _ h => List.mem_cons_of_mem _ (List.mem_append_right _ h)) (by decide +kernel))
set_option maxRecDepth 20000 in
theorem gL_map_X4_map : GoodIn wsL_map (wsV RL 30 RX4 yX4_map wsX4_map) := goodIn_app (goodIn_of _ (by decide +kernel)) ggL_map_X4_map
theorem dL_map_0 : decode cL_map 0 = .ok (.aload_n 3, 1) := by decide +kernel
theorem dL_map_1 : decode cL_map 1 = .ok (.iconst 0, 1) := by decide +kernel
theorem dL_map_2 : decode cL_map 2 = .ok (.aload_n 0, 1) := by decide +kernel
theorem dL_map_3 : decode cL_map 3 = .ok (.iload_n 1, 1) := by decide +kernel
theorem dL_map_4 : decode cL_map 4 = .ok (.iload_n 2, 1) := by decide +kernel
theorem dL_map_5 : decode cL_map 5 = .ok (.invokevirtual 30, 3) := by decide +kernel
theorem dL_map_8 : decode cL_map 8 = .ok (.dastore, 1) := by decide +kernel
theorem dL_map_9 : decode cL_map 9 = .ok (.goto 7, 3) := by decide +kernel
theorem dL_map_12 : decode cL_map 12 = .ok (.astore 4, 2) := by decide +kernel
theorem dL_map_14 : decode cL_map 14 = .ok (.iconst 1, 1) := by decide +kernel
theorem dL_map_15 : decode cL_map 15 = .ok (.ireturn, 1) := by decide +kernel
theorem dL_map_16 : decode cL_map 16 = .ok (.iconst 0, 1) := by decide +kernel
theorem dL_map_17 : decode cL_map 17 = .ok (.ireturn, 1) := by decide +kernel
set_option maxRecDepth 20000 in
theorem ggL_blocks_X4_blocks : GoodIn wsL_blocks wsX4_blocks := goodIn_ca (goodIn_r _ [6, 7, 8, 9, 10, 11, 12, 13, 14, 5, 15, 16, 17, 18, 19, 20, 21, 22, 23, 24, 25, 26, 27, 28, 29, 30, 31, 32, 33, 34, 35, 36, 37, 38, 39, 40, 41, 42, 43, 44, 45] (by decide +kernel) (by decide +kernel)) (goodIn_sub (fun _ h => List.mem_cons_of_mem _ (List.mem_append_right _ h)) (by decide +kernel))
set_option maxRecDepth 20000 in
theorem gL_blocks_X4_blocks : GoodIn wsL_blocks (wsV RL 34 RX4 yX4_blocks wsX4_blocks) := goodIn_app (goodIn_of _ (by decide +kernel)) ggL_blocks_X4_blocks
theorem dL_blocks_0 : decode cL_blocks 0 = .ok (.aload_n 2, 1) := by decide +kernel
theorem dL_blocks_1 : decode cL_blocks 1 = .ok (.iconst 0, 1) := by decide +kernel
theorem dL_blocks_2 : decode cL_blocks 2 = .ok (.aload_n 0, 1) := by decide +kernel
theorem dL_blocks_3 : decode cL_blocks 3 = .ok (.iload_n 1, 1) := by decide +kernel
theorem dL_blocks_4 : decode cL_blocks 4 = .ok (.invokevirtual 34, 3) := by decide +kernel
theorem dL_blocks_7 : decode cL_blocks 7 = .ok (.dastore, 1) := by decide +kernel
theorem dL_blocks_8 : decode cL_blocks 8 = .ok (.goto 6, 3) := by decide +kernel
theorem dL_blocks_11 : decode cL_blocks 11 = .ok (.astore_n 3, 1) := by decide +kernel
theorem dL_blocks_12 : decode cL_blocks 12 = .ok (.iconst 1, 1) := by decide +kernel
theorem dL_blocks_13 : decode cL_blocks 13 = .ok (.ireturn, 1) := by decide +kernel
theorem dL_blocks_14 : decode cL_blocks 14 = .ok (.iconst 0, 1) := by decide +kernel
theorem dL_blocks_15 : decode cL_blocks 15 = .ok (.ireturn, 1) := by decide +kernel
set_option maxRecDepth 20000 in
theorem ggL_note_X4_note : GoodIn wsL_note wsX4_note := goodIn_ca (goodIn_ca (goodIn_ca (goodIn_r _ [8, 9, 10, 11, 12, 13, 14, 15, 16, 17, 18, 19, 7, 20, 21, 22, 23, 24, 25, 26, 27, 28, 29, 30, 31, 32, 33, 34, 35, 36, 37, 38, 39, 40, 41, 42] (by decide +kernel) (by decide +kernel)) (goodIn_sub (fun _ h => List.mem_cons_of_mem _ (List.mem_append_left _ (List.mem_append_left _ (List.mem_append_right _ h)))) (by decide +kernel))) (goodIn_sub (fun _ h => List.mem_cons_of_mem _ (List.mem_append_left _ (List.mem_append_right _ h))) (by decide +kernel))) (goodIn_sub (fun _ h => List.mem_cons_of_mem _ (List.mem_append_right _ h)) (by decide +kernel))
set_option maxRecDepth 20000 in
theorem gL_note_X4_note : GoodIn wsL_note (wsV RL 37 RX4 yX4_note wsX4_note) := goodIn_app (goodIn_of _ (by decide +kernel)) ggL_note_X4_note
theorem dL_note_0 : decode cL_note 0 = .ok (.aload 4, 2) := by decide +kernel
theorem dL_note_2 : decode cL_note 2 = .ok (.iconst 0, 1) := by decide +kernel
theorem dL_note_3 : decode cL_note 3 = .ok (.aload_n 0, 1) := by decide +kernel
theorem dL_note_4 : decode cL_note 4 = .ok (.iload_n 1, 1) := by decide +kernel
theorem dL_note_5 : decode cL_note 5 = .ok (.dload_n 2, 1) := by decide +kernel
theorem dL_note_6 : decode cL_note 6 = .ok (.invokevirtual 37, 3) := by decide +kernel
theorem dL_note_9 : decode cL_note 9 = .ok (.i2l, 1) := by decide +kernel
theorem dL_note_10 : decode cL_note 10 = .ok (.lastore, 1) := by decide +kernel
theorem dL_note_11 : decode cL_note 11 = .ok (.goto 15, 3) := by decide +kernel
theorem dL_note_14 : decode cL_note 14 = .ok (.astore 5, 2) := by decide +kernel
theorem dL_note_16 : decode cL_note 16 = .ok (.iconst 1, 1) := by decide +kernel
theorem dL_note_17 : decode cL_note 17 = .ok (.ireturn, 1) := by decide +kernel
theorem dL_note_18 : decode cL_note 18 = .ok (.astore 5, 2) := by decide +kernel
theorem dL_note_20 : decode cL_note 20 = .ok (.iconst 2, 1) := by decide +kernel
theorem dL_note_21 : decode cL_note 21 = .ok (.ireturn, 1) := by decide +kernel
theorem dL_note_22 : decode cL_note 22 = .ok (.astore 5, 2) := by decide +kernel
theorem dL_note_24 : decode cL_note 24 = .ok (.iconst 3, 1) := by decide +kernel
theorem dL_note_25 : decode cL_note 25 = .ok (.ireturn, 1) := by decide +kernel
theorem dL_note_26 : decode cL_note 26 = .ok (.iconst 0, 1) := by decide +kernel
theorem dL_note_27 : decode cL_note 27 = .ok (.ireturn, 1) := by decide +kernel
set_option maxRecDepth 20000 in
theorem ggL_mean_X4_mean : GoodIn wsL_mean wsX4_mean := goodIn_ca (goodIn_ca (goodIn_r _ [7, 8, 9, 10, 11, 12, 13, 14, 6, 15, 16, 17, 18, 19, 20, 21, 22, 23, 24, 25, 26, 27, 28, 29, 30, 31, 32, 33, 34, 35, 36, 37, 38, 39, 40] (by decide +kernel) (by decide +kernel)) (goodIn_sub (fun _ h => List.mem_cons_of_mem _ (List.mem_append_left _ (List.mem_append_right _ h))) (by decide +kernel))) (goodIn_sub (fun _ h => List.mem_cons_of_mem _ (List.mem_append_right _ h)) (by decide +kernel))
set_option maxRecDepth 20000 in
theorem gL_mean_X4_mean : GoodIn wsL_mean (wsV RL 43 RX4 yX4_mean wsX4_mean) := goodIn_app (goodIn_of _ (by decide +kernel)) ggL_mean_X4_mean
theorem dL_mean_0 : decode cL_mean 0 = .ok (.aload_n 2, 1) := by decide +kernel
theorem dL_mean_1 : decode cL_mean 1 = .ok (.iconst 0, 1) := by decide +kernel
theorem dL_mean_2 : decode cL_mean 2 = .ok (.aload_n 0, 1) := by decide +kernel
theorem dL_mean_3 : decode cL_mean 3 = .ok (.iload_n 1, 1) := by decide +kernel
theorem dL_mean_4 : decode cL_mean 4 = .ok (.invokevirtual 43, 3) := by decide +kernel
theorem dL_mean_7 : decode cL_mean 7 = .ok (.dastore, 1) := by decide +kernel
theorem dL_mean_8 : decode cL_mean 8 = .ok (.goto 9, 3) := by decide +kernel
theorem dL_mean_11 : decode cL_mean 11 = .ok (.astore_n 3, 1) := by decide +kernel
theorem dL_mean_12 : decode cL_mean 12 = .ok (.iconst 1, 1) := by decide +kernel
theorem dL_mean_13 : decode cL_mean 13 = .ok (.ireturn, 1) := by decide +kernel
theorem dL_mean_14 : decode cL_mean 14 = .ok (.astore_n 3, 1) := by decide +kernel
theorem dL_mean_15 : decode cL_mean 15 = .ok (.iconst 2, 1) := by decide +kernel
theorem dL_mean_16 : decode cL_mean 16 = .ok (.ireturn, 1) := by decide +kernel
theorem dL_mean_17 : decode cL_mean 17 = .ok (.iconst 0, 1) := by decide +kernel
theorem dL_mean_18 : decode cL_mean 18 = .ok (.ireturn, 1) := by decide +kernel
set_option maxRecDepth 20000 in
theorem ggL_ranked_X4_ranked : GoodIn wsL_ranked wsX4_ranked := goodIn_ca (goodIn_r _ [6, 7, 8, 9, 10, 11, 5, 12, 13, 14, 15, 16, 17, 18, 19, 20, 21, 22, 23, 24, 25, 26, 27, 28, 29, 30, 31, 32, 33, 34, 35, 36, 37] (by decide +kernel) (by decide +kernel)) (goodIn_sub (fun _ h => List.mem_cons_of_mem _ (List.mem_append_right _ h)) (by decide +kernel))
set_option maxRecDepth 20000 in
theorem gL_ranked_X4_ranked : GoodIn wsL_ranked (wsV RL 46 RX4 yX4_ranked wsX4_ranked) := goodIn_app (goodIn_of _ (by decide +kernel)) ggL_ranked_X4_ranked
theorem dL_ranked_0 : decode cL_ranked 0 = .ok (.aload_n 3, 1) := by decide +kernel
theorem dL_ranked_1 : decode cL_ranked 1 = .ok (.iconst 0, 1) := by decide +kernel
theorem dL_ranked_2 : decode cL_ranked 2 = .ok (.aload_n 0, 1) := by decide +kernel
theorem dL_ranked_3 : decode cL_ranked 3 = .ok (.iload_n 1, 1) := by decide +kernel
theorem dL_ranked_4 : decode cL_ranked 4 = .ok (.iload_n 2, 1) := by decide +kernel
theorem dL_ranked_5 : decode cL_ranked 5 = .ok (.invokevirtual 46, 3) := by decide +kernel
theorem dL_ranked_8 : decode cL_ranked 8 = .ok (.dastore, 1) := by decide +kernel
theorem dL_ranked_9 : decode cL_ranked 9 = .ok (.goto 7, 3) := by decide +kernel
theorem dL_ranked_12 : decode cL_ranked 12 = .ok (.astore 4, 2) := by decide +kernel
theorem dL_ranked_14 : decode cL_ranked 14 = .ok (.iconst 1, 1) := by decide +kernel
theorem dL_ranked_15 : decode cL_ranked 15 = .ok (.ireturn, 1) := by decide +kernel
theorem dL_ranked_16 : decode cL_ranked 16 = .ok (.iconst 0, 1) := by decide +kernel
theorem dL_ranked_17 : decode cL_ranked 17 = .ok (.ireturn, 1) := by decide +kernel
set_option maxRecDepth 20000 in
theorem ggL_wins_X4_wins : GoodIn wsL_wins wsX4_wins := goodIn_ca (goodIn_r _ [6, 7, 8, 9, 10, 11, 5, 12, 13, 14, 15, 16, 17, 18, 19, 20, 21, 22, 23, 24, 25, 26, 27, 28, 29, 30, 31, 32, 33, 34, 35, 36, 37] (by decide +kernel) (by decide +kernel)) (goodIn_sub (fun _ h => List.mem_cons_of_mem _ (List.mem_append_right _ h)) (by decide +kernel))
set_option maxRecDepth 20000 in
theorem gL_wins_X4_wins : GoodIn wsL_wins (wsV RL 49 RX4 yX4_wins wsX4_wins) := goodIn_app (goodIn_of _ (by decide +kernel)) ggL_wins_X4_wins
theorem dL_wins_0 : decode cL_wins 0 = .ok (.aload_n 3, 1) := by decide +kernel
theorem dL_wins_1 : decode cL_wins 1 = .ok (.iconst 0, 1) := by decide +kernel
theorem dL_wins_2 : decode cL_wins 2 = .ok (.aload_n 0, 1) := by decide +kernel
theorem dL_wins_3 : decode cL_wins 3 = .ok (.iload_n 1, 1) := by decide +kernel
theorem dL_wins_4 : decode cL_wins 4 = .ok (.iload_n 2, 1) := by decide +kernel
theorem dL_wins_5 : decode cL_wins 5 = .ok (.invokevirtual 49, 3) := by decide +kernel
theorem dL_wins_8 : decode cL_wins 8 = .ok (.i2l, 1) := by decide +kernel
theorem dL_wins_9 : decode cL_wins 9 = .ok (.lastore, 1) := by decide +kernel
theorem dL_wins_10 : decode cL_wins 10 = .ok (.goto 7, 3) := by decide +kernel
theorem dL_wins_13 : decode cL_wins 13 = .ok (.astore 4, 2) := by decide +kernel
theorem dL_wins_15 : decode cL_wins 15 = .ok (.iconst 1, 1) := by decide +kernel
theorem dL_wins_16 : decode cL_wins 16 = .ok (.ireturn, 1) := by decide +kernel
theorem dL_wins_17 : decode cL_wins 17 = .ok (.iconst 0, 1) := by decide +kernel
theorem dL_wins_18 : decode cL_wins 18 = .ok (.ireturn, 1) := by decide +kernel
set_option maxRecDepth 20000 in
theorem ggL_law_L_cell : GoodIn wsL_law wsL_cell := goodIn_r _ [12] (by decide +kernel) (by decide +kernel)
set_option maxRecDepth 20000 in
theorem gL_law_L_cell : GoodIn wsL_law (va_wsS RL 53 yL_cell wsL_cell) := goodIn_app (goodIn_of _ (by decide +kernel)) ggL_law_L_cell
set_option maxRecDepth 20000 in
theorem ggL_law_X4_init : GoodIn wsL_law wsX4_init := goodIn_r _ [15, 16, 17, 18, 19, 20, 21, 22, 23, 24, 25, 26, 27, 28, 29, 30, 31, 32, 33, 34, 35, 36, 37, 38, 39, 40, 41, 42, 2, 43, 44, 45, 46, 47, 48, 49, 50, 51, 52, 53, 54, 55, 56, 57, 58, 59, 60, 61, 62, 63, 64, 65, 66, 67, 68, 69, 70, 71, 72, 73, 74, 75, 76, 77, 78, 79, 80, 81, 82, 7, 83, 84, 505, 506, 507, 508, 509, 510, 511, 512, 513, 514, 530, 531, 532, 533, 534, 535, 536, 537, 538, 539, 540, 541, 542, 543, 544, 545, 546, 547] (by decide +kernel) (by decide +kernel)
set_option maxRecDepth 20000 in
theorem gL_law_X4_init : GoodIn wsL_law (wsX4_init) := ggL_law_X4_init
set_option maxRecDepth 20000 in
theorem ggL_law_X5_init : GoodIn wsL_law wsX5_init := goodIn_r _ [87, 88, 17, 18, 59, 89, 90, 91, 92, 93, 94, 95, 7, 96, 97, 98, 99, 100, 515, 516, 517, 518, 519, 520, 521, 522, 523, 524, 525, 526, 527, 528, 529] (by decide +kernel) (by decide +kernel)
set_option maxRecDepth 20000 in
theorem gL_law_X5_init : GoodIn wsL_law (wsX5_init) := ggL_law_X5_init
set_option maxRecDepth 20000 in
theorem ggL_law_L_put : GoodIn wsL_law wsL_put := goodIn_ca (goodIn_ca (goodIn_r _ [103, 104, 105, 106, 107, 108, 2, 109, 110, 111, 112, 113, 114, 115, 116, 117, 19, 20, 118, 119, 120, 121, 21, 122, 123, 124, 125, 26, 27, 126, 127, 128, 129, 130, 131, 132, 25, 133, 58, 60, 505, 506, 507, 508, 509, 510, 511, 512, 513, 514, 530, 531] (by decide +kernel) (by decide +kernel)) (goodIn_sub (fun _ h => List.mem_append_left _ (List.mem_append_left _ (List.mem_append_left _ (List.mem_append_right _ h)))) (by decide +kernel))) (goodIn_sub (fun _ h => List.mem_append_left _ (List.mem_append_left _ (List.mem_append_right _ h))) (by decide +kernel))
set_option maxRecDepth 20000 in
theorem gL_law_L_put : GoodIn wsL_law (va_wsS RL 65 yL_put wsL_put) := goodIn_app (goodIn_of _ (by decide +kernel)) ggL_law_L_put
set_option maxRecDepth 20000 in
theorem ggL_law_X5_put : GoodIn wsL_law wsX5_put := goodIn_r _ [137, 100, 138, 98, 89, 90, 139, 140, 141, 5, 142, 99, 143, 144, 145, 515, 516, 517, 518, 519, 520, 521, 522, 523, 524, 525, 526, 527, 528, 529] (by decide +kernel) (by decide +kernel)
set_option maxRecDepth 20000 in
theorem gL_law_X5_put : GoodIn wsL_law (wsV RL 68 RX5 yX5_put wsX5_put) := goodIn_app (goodIn_of _ (by decide +kernel)) ggL_law_X5_put
set_option maxRecDepth 20000 in
theorem ggL_law_X5_thrown : GoodIn wsL_law wsX5_thrown := goodIn_r _ [149, 138, 515, 516, 517, 518, 519, 520, 521, 522, 523, 524, 525, 526, 527, 528, 529] (by decide +kernel) (by decide +kernel)
set_option maxRecDepth 20000 in
theorem gL_law_X5_thrown : GoodIn wsL_law (wsV RL 69 RX5 yX5_thrown wsX5_thrown) := goodIn_app (goodIn_of _ (by decide +kernel)) ggL_law_X5_thrown
set_option maxRecDepth 20000 in
theorem ggL_law_X4_paint : GoodIn wsL_law wsX4_paint := goodIn_r _ [153, 122, 123, 124, 2, 125, 26, 27, 154, 155, 156, 25, 157, 60, 505, 506, 507, 508, 509, 510, 511, 512, 513, 514, 530, 531] (by decide +kernel) (by decide +kernel)
set_option maxRecDepth 20000 in
theorem gL_law_X4_paint : GoodIn wsL_law (wsV RL 73 RX4 yX4_paint wsX4_paint) := goodIn_app (goodIn_of _ (by decide +kernel)) ggL_law_X4_paint
set_option maxRecDepth 20000 in
theorem ggL_law_X5_paint : GoodIn wsL_law wsX5_paint := goodIn_r _ [161, 138, 100, 89, 90, 162, 163, 164, 5, 165, 98, 99, 515, 516, 517, 518, 519, 520, 521, 522, 523, 524, 525, 526, 527, 528, 529] (by decide +kernel) (by decide +kernel)
set_option maxRecDepth 20000 in
theorem gL_law_X5_paint : GoodIn wsL_law (wsV RL 76 RX5 yX5_paint wsX5_paint) := goodIn_app (goodIn_of _ (by decide +kernel)) ggL_law_X5_paint
set_option maxRecDepth 20000 in
theorem ggL_law_X4_copy : GoodIn wsL_law wsX4_copy := goodIn_r _ [169, 27, 26, 170, 171, 172, 25, 173, 60, 505, 506, 507, 508, 509, 510, 511, 512, 513, 514, 530, 531] (by decide +kernel) (by decide +kernel)
set_option maxRecDepth 20000 in
theorem gL_law_X4_copy : GoodIn wsL_law (wsV RL 77 RX4 yX4_copy wsX4_copy) := goodIn_app (goodIn_of _ (by decide +kernel)) ggL_law_X4_copy
set_option maxRecDepth 20000 in
theorem ggL_law_X5_copy : GoodIn wsL_law wsX5_copy := goodIn_r _ [177, 138, 89, 90, 162, 163, 164, 5, 165, 98, 99, 515, 516, 517, 518, 519, 520, 521, 522, 523, 524, 525, 526, 527, 528, 529] (by decide +kernel) (by decide +kernel)
set_option maxRecDepth 20000 in
theorem gL_law_X5_copy : GoodIn wsL_law (wsV RL 80 RX5 yX5_copy wsX5_copy) := goodIn_app (goodIn_of _ (by decide +kernel)) ggL_law_X5_copy
set_option maxRecDepth 20000 in
theorem ggL_law_L_squared : GoodIn wsL_law wsL_squared := goodIn_ca (goodIn_r _ [180, 104, 181, 182, 183, 2, 184, 110, 111, 26, 27, 19, 20, 118, 119, 120, 121, 21, 185, 186, 187, 25, 188, 58, 60, 189, 190, 191, 505, 506, 507, 508, 509, 510, 511, 512, 513, 514, 530, 531] (by decide +kernel) (by decide +kernel)) (goodIn_sub (fun _ h => List.mem_append_left _ (List.mem_append_left _ (List.mem_append_left _ (List.mem_append_right _ h)))) (by decide +kernel))
set_option maxRecDepth 20000 in
theorem gL_law_L_squared : GoodIn wsL_law (va_wsS RL 81 yL_squared wsL_squared) := goodIn_app (goodIn_of _ (by decide +kernel)) ggL_law_L_squared
set_option maxRecDepth 20000 in
theorem ggL_law_X5_squared : GoodIn wsL_law wsX5_squared := goodIn_r _ [195, 100, 138, 89, 90, 143, 144, 5, 145, 162, 163, 164, 165, 98, 99, 515, 516, 517, 518, 519, 520, 521, 522, 523, 524, 525, 526, 527, 528, 529] (by decide +kernel) (by decide +kernel)
set_option maxRecDepth 20000 in
theorem gL_law_X5_squared : GoodIn wsL_law (wsV RL 84 RX5 yX5_squared wsX5_squared) := goodIn_app (goodIn_of _ (by decide +kernel)) ggL_law_X5_squared
set_option maxRecDepth 20000 in
theorem ggL_law_X4_greatest : GoodIn wsL_law wsX4_greatest := goodIn_r _ [199, 26, 27, 200, 201, 202, 25, 203, 60, 204, 205, 46, 206, 207, 49, 50, 505, 506, 507, 508, 509, 510, 511, 512, 513, 514, 530, 531] (by decide +kernel) (by decide +kernel)
set_option maxRecDepth 20000 in
theorem gL_law_X4_greatest : GoodIn wsL_law (wsV RL 85 RX4 yX4_greatest wsX4_greatest) := goodIn_app (goodIn_of _ (by decide +kernel)) ggL_law_X4_greatest
set_option maxRecDepth 20000 in
theorem ggL_law_X5_greatest : GoodIn wsL_law wsX5_greatest := goodIn_r _ [211, 138, 89, 90, 162, 163, 164, 5, 165, 98, 99, 515, 516, 517, 518, 519, 520, 521, 522, 523, 524, 525, 526, 527, 528, 529] (by decide +kernel) (by decide +kernel)
set_option maxRecDepth 20000 in
theorem gL_law_X5_greatest : GoodIn wsL_law (wsV RL 88 RX5 yX5_greatest wsX5_greatest) := goodIn_app (goodIn_of _ (by decide +kernel)) ggL_law_X5_greatest
set_option maxRecDepth 20000 in
theorem ggL_law_L_grey : GoodIn wsL_law wsL_grey := goodIn_ca (goodIn_r _ [214, 104, 215, 216, 217, 2, 218, 110, 111, 114, 115, 116, 117, 19, 20, 122, 123, 124, 125, 26, 27, 126, 127, 128, 129, 219, 220, 221, 25, 222, 58, 60, 505, 506, 507, 508, 509, 510, 511, 512, 513, 514, 530, 531] (by decide +kernel) (by decide +kernel)) (goodIn_sub (fun _ h => List.mem_append_left _ (List.mem_append_left _ (List.mem_append_left _ (List.mem_append_right _ h)))) (by decide +kernel))
set_option maxRecDepth 20000 in
theorem gL_law_L_grey : GoodIn wsL_law (va_wsS RL 89 yL_grey wsL_grey) := goodIn_app (goodIn_of _ (by decide +kernel)) ggL_law_L_grey
set_option maxRecDepth 20000 in
theorem ggL_law_X5_grey : GoodIn wsL_law wsX5_grey := goodIn_r _ [226, 138, 98, 139, 140, 141, 5, 142, 99, 143, 144, 145, 227, 228, 229, 230, 89, 90, 100, 515, 516, 517, 518, 519, 520, 521, 522, 523, 524, 525, 526, 527, 528, 529] (by decide +kernel) (by decide +kernel)
set_option maxRecDepth 20000 in
theorem gL_law_X5_grey : GoodIn wsL_law (wsV RL 92 RX5 yX5_grey wsX5_grey) := goodIn_app (goodIn_of _ (by decide +kernel)) ggL_law_X5_grey
set_option maxRecDepth 20000 in
theorem ggL_law_L_structure : GoodIn wsL_law wsL_structure := goodIn_ca (goodIn_ca (goodIn_r _ [233, 105, 234, 235, 236, 237, 2, 238, 112, 113, 239, 240, 22, 31, 26, 27, 241, 242, 243, 30, 244, 65, 245, 66, 246, 67, 68, 247, 220, 221, 25, 222, 58, 60, 248, 249, 250, 251, 252, 253, 254, 255, 256, 257, 258, 259, 260, 261, 262, 263, 264, 265, 266, 267, 268, 269, 270, 505, 506, 507, 508, 509, 510, 511, 512, 513, 514, 532, 533, 534, 535, 536, 537, 530, 531] (by decide +kernel) (by decide +kernel)) (goodIn_sub (fun _ h => List.mem_append_left _ (List.mem_append_left _ (List.mem_append_right _ h))) (by decide +kernel))) (goodIn_sub (fun _ h => List.mem_append_left _ (List.mem_append_right _ h)) (by decide +kernel))
set_option maxRecDepth 20000 in
theorem gL_law_L_structure : GoodIn wsL_law (va_wsS RL 93 yL_structure wsL_structure) := goodIn_app (goodIn_of _ (by decide +kernel)) ggL_law_L_structure
set_option maxRecDepth 20000 in
theorem ggL_law_X5_structure : GoodIn wsL_law wsX5_structure := goodIn_r _ [274, 138, 275, 276, 143, 144, 5, 145, 277, 278, 279, 280, 98, 99, 281, 282, 283, 284, 91, 92, 162, 163, 164, 165, 227, 228, 229, 230, 89, 90, 100, 285, 286, 287, 288, 289, 290, 291, 292, 293, 294, 295, 296, 297, 298, 299, 515, 516, 517, 518, 519, 520, 521, 522, 523, 524, 525, 526, 527, 528, 529] (by decide +kernel) (by decide +kernel)
set_option maxRecDepth 20000 in
theorem gL_law_X5_structure : GoodIn wsL_law (wsV RL 95 RX5 yX5_structure wsX5_structure) := goodIn_app (goodIn_of _ (by decide +kernel)) ggL_law_X5_structure
set_option maxRecDepth 20000 in
theorem ggL_law_L_map : GoodIn wsL_law wsL_map := goodIn_ca (goodIn_r _ [302, 104, 303, 304, 305, 2, 306, 110, 111, 19, 20, 31, 26, 27, 241, 242, 243, 30, 244, 65, 245, 66, 246, 67, 68, 247, 220, 221, 25, 222, 58, 60, 307, 261, 262, 263, 264, 265, 266, 267, 268, 269, 270, 505, 506, 507, 508, 509, 510, 511, 512, 513, 514, 532, 533, 534, 535, 536, 537, 530, 531] (by decide +kernel) (by decide +kernel)) (goodIn_sub (fun _ h => List.mem_append_left _ (List.mem_append_left _ (List.mem_append_left _ (List.mem_append_right _ h)))) (by decide +kernel))
set_option maxRecDepth 20000 in
theorem gL_law_L_map : GoodIn wsL_law (va_wsS RL 96 yL_map wsL_map) := goodIn_app (goodIn_of _ (by decide +kernel)) ggL_law_L_map
set_option maxRecDepth 20000 in
theorem ggL_law_X5_map : GoodIn wsL_law wsX5_map := goodIn_r _ [311, 98, 99, 138, 143, 144, 5, 145, 281, 282, 283, 284, 276, 275, 91, 92, 162, 163, 164, 165, 227, 228, 229, 230, 89, 90, 100, 289, 290, 291, 292, 293, 294, 295, 296, 297, 298, 299, 515, 516, 517, 518, 519, 520, 521, 522, 523, 524, 525, 526, 527, 528, 529] (by decide +kernel) (by decide +kernel)
set_option maxRecDepth 20000 in
theorem gL_law_X5_map : GoodIn wsL_law (wsV RL 99 RX5 yX5_map wsX5_map) := goodIn_app (goodIn_of _ (by decide +kernel)) ggL_law_X5_map
set_option maxRecDepth 20000 in
theorem ggL_law_L_blocks : GoodIn wsL_law wsL_blocks := goodIn_ca (goodIn_r _ [314, 105, 315, 316, 317, 2, 318, 112, 113, 20, 19, 27, 319, 320, 321, 322, 323, 205, 46, 206, 126, 127, 128, 129, 219, 220, 221, 25, 222, 58, 60, 189, 190, 191, 505, 506, 507, 508, 509, 510, 511, 512, 513, 514, 530, 531] (by decide +kernel) (by decide +kernel)) (goodIn_sub (fun _ h => List.mem_append_left _ (List.mem_append_left _ (List.mem_append_right _ h))) (by decide +kernel))
set_option maxRecDepth 20000 in
theorem gL_law_L_blocks : GoodIn wsL_law (va_wsS RL 100 yL_blocks wsL_blocks) := goodIn_app (goodIn_of _ (by decide +kernel)) ggL_law_L_blocks
set_option maxRecDepth 20000 in
theorem ggL_law_X5_blocks : GoodIn wsL_law wsX5_blocks := goodIn_r _ [327, 138, 99, 98, 92, 143, 144, 5, 145, 281, 282, 283, 284, 276, 275, 91, 162, 163, 164, 165, 227, 228, 229, 230, 89, 90, 100, 515, 516, 517, 518, 519, 520, 521, 522, 523, 524, 525, 526, 527, 528, 529] (by decide +kernel) (by decide +kernel)
set_option maxRecDepth 20000 in
theorem gL_law_X5_blocks : GoodIn wsL_law (wsV RL 102 RX5 yX5_blocks wsX5_blocks) := goodIn_app (goodIn_of _ (by decide +kernel)) ggL_law_X5_blocks
set_option maxRecDepth 20000 in
theorem ggL_law_X4_bands : GoodIn wsL_law wsX4_bands := goodIn_r _ [331, 20, 19, 26, 27, 319, 320, 321, 2, 322, 323, 205, 46, 206, 126, 127, 128, 129, 219, 220, 221, 25, 222, 58, 60, 189, 190, 191, 505, 506, 507, 508, 509, 510, 511, 512, 513, 514, 530, 531] (by decide +kernel) (by decide +kernel)
set_option maxRecDepth 20000 in
theorem gL_law_X4_bands : GoodIn wsL_law (wsV RL 103 RX4 yX4_bands wsX4_bands) := goodIn_app (goodIn_of _ (by decide +kernel)) ggL_law_X4_bands
set_option maxRecDepth 20000 in
theorem ggL_law_X5_bands : GoodIn wsL_law wsX5_bands := goodIn_r _ [335, 138, 99, 98, 91, 92, 281, 282, 283, 5, 284, 276, 275, 162, 163, 164, 165, 227, 228, 229, 230, 89, 90, 100, 515, 516, 517, 518, 519, 520, 521, 522, 523, 524, 525, 526, 527, 528, 529] (by decide +kernel) (by decide +kernel)
set_option maxRecDepth 20000 in
theorem gL_law_X5_bands : GoodIn wsL_law (wsV RL 107 RX5 yX5_bands wsX5_bands) := goodIn_app (goodIn_of _ (by decide +kernel)) ggL_law_X5_bands
set_option maxRecDepth 20000 in
theorem ggL_law_X4_signs : GoodIn wsL_law wsX4_signs := goodIn_r _ [339, 35, 26, 36, 27, 340, 341, 342, 34, 343, 76, 344, 345, 346, 347, 74, 73, 75, 348, 220, 221, 25, 222, 58, 60, 349, 350, 351, 352, 353, 77, 354, 355, 356, 357, 358, 359, 360, 361, 362, 363, 364, 365, 79, 366, 367, 368, 369, 370, 371, 372, 373, 505, 506, 507, 508, 509, 510, 511, 512, 513, 514, 538, 539, 540, 541, 542, 543, 544, 530, 531] (by decide +kernel) (by decide +kernel)
set_option maxRecDepth 20000 in
theorem gL_law_X4_signs : GoodIn wsL_law (wsV RL 108 RX4 yX4_signs wsX4_signs) := goodIn_app (goodIn_of _ (by decide +kernel)) ggL_law_X4_signs
set_option maxRecDepth 20000 in
theorem ggL_law_X5_signs : GoodIn wsL_law wsX5_signs := goodIn_r _ [377, 138, 91, 93, 92, 94, 281, 282, 283, 5, 284, 98, 276, 99, 275, 162, 163, 164, 165, 227, 228, 229, 230, 89, 90, 100, 378, 379, 380, 381, 382, 383, 384, 385, 139, 140, 141, 142, 143, 144, 145, 386, 387, 388, 389, 390, 391, 392, 393, 515, 516, 517, 518, 519, 520, 521, 522, 523, 524, 525, 526, 527, 528, 529] (by decide +kernel) (by decide +kernel)
set_option maxRecDepth 20000 in
theorem gL_law_X5_signs : GoodIn wsL_law (wsV RL 112 RX5 yX5_signs wsX5_signs) := goodIn_app (goodIn_of _ (by decide +kernel)) ggL_law_X5_signs
set_option maxRecDepth 20000 in
theorem ggL_law_X4_equal : GoodIn wsL_law wsX4_equal := goodIn_r _ [397, 26, 27, 398, 399, 400, 25, 401, 402, 201, 202, 203, 60, 204, 205, 46, 206, 207, 49, 50, 505, 506, 507, 508, 509, 510, 511, 512, 513, 514, 530, 531] (by decide +kernel) (by decide +kernel)
set_option maxRecDepth 20000 in
theorem gL_law_X4_equal : GoodIn wsL_law (wsV RL 113 RX4 yX4_equal wsX4_equal) := goodIn_app (goodIn_of _ (by decide +kernel)) ggL_law_X4_equal
set_option maxRecDepth 20000 in
theorem ggL_law_X5_equal : GoodIn wsL_law wsX5_equal := goodIn_r _ [406, 407, 209, 210, 5, 211, 138, 89, 90, 162, 163, 164, 165, 98, 99, 515, 516, 517, 518, 519, 520, 521, 522, 523, 524, 525, 526, 527, 528, 529] (by decide +kernel) (by decide +kernel)
set_option maxRecDepth 20000 in
theorem gL_law_X5_equal : GoodIn wsL_law (wsV RL 117 RX5 yX5_equal wsX5_equal) := goodIn_app (goodIn_of _ (by decide +kernel)) ggL_law_X5_equal
set_option maxRecDepth 20000 in
theorem ggL_law_L_note : GoodIn wsL_law wsL_note := goodIn_ca (goodIn_ca (goodIn_ca (goodIn_r _ [410, 104, 105, 411, 412, 413, 414, 2, 415, 110, 111, 112, 113, 416, 417, 418, 419, 420, 421, 422, 423, 38, 424, 425, 426, 40, 427, 428, 83, 84, 505, 506, 507, 508, 509, 510, 511, 512, 513, 514, 545, 546, 547] (by decide +kernel) (by decide +kernel)) (goodIn_sub (fun _ h => List.mem_append_left _ (List.mem_append_left _ (List.mem_append_left _ (List.mem_append_right _ h)))) (by decide +kernel))) (goodIn_sub (fun _ h => List.mem_append_left _ (List.mem_append_left _ (List.mem_append_right _ h))) (by decide +kernel))) (goodIn_sub (fun _ h => List.mem_append_right _ h) (by decide +kernel))
set_option maxRecDepth 20000 in
theorem gL_law_L_note : GoodIn wsL_law (va_wsS RL 120 yL_note wsL_note) := goodIn_app (goodIn_of _ (by decide +kernel)) ggL_law_L_note
set_option maxRecDepth 20000 in
theorem ggL_law_X5_note : GoodIn wsL_law wsX5_note := goodIn_r _ [432, 433, 434, 95, 138, 96, 143, 144, 5, 145, 515, 516, 517, 518, 519, 520, 521, 522, 523, 524, 525, 526, 527, 528, 529] (by decide +kernel) (by decide +kernel)
set_option maxRecDepth 20000 in
theorem gL_law_X5_note : GoodIn wsL_law (wsV RL 123 RX5 yX5_note wsX5_note) := goodIn_app (goodIn_of _ (by decide +kernel)) ggL_law_X5_note
set_option maxRecDepth 20000 in
theorem ggL_law_L_mean : GoodIn wsL_law wsL_mean := goodIn_ca (goodIn_ca (goodIn_r _ [437, 104, 234, 438, 439, 440, 2, 441, 110, 111, 239, 240, 420, 421, 422, 423, 38, 442, 443, 444, 40, 445, 428, 446, 447, 448, 449, 83, 505, 506, 507, 508, 509, 510, 511, 512, 513, 514, 545, 546, 547] (by decide +kernel) (by decide +kernel)) (goodIn_sub (fun _ h => List.mem_append_left _ (List.mem_append_left _ (List.mem_append_left _ (List.mem_append_right _ h)))) (by decide +kernel))) (goodIn_sub (fun _ h => List.mem_append_left _ (List.mem_append_right _ h)) (by decide +kernel))
set_option maxRecDepth 20000 in
theorem gL_law_L_mean : GoodIn wsL_law (va_wsS RL 124 yL_mean wsL_mean) := goodIn_app (goodIn_of _ (by decide +kernel)) ggL_law_L_mean
set_option maxRecDepth 20000 in
theorem ggL_law_X5_mean : GoodIn wsL_law wsX5_mean := goodIn_r _ [453, 95, 138, 96, 143, 144, 5, 145, 515, 516, 517, 518, 519, 520, 521, 522, 523, 524, 525, 526, 527, 528, 529] (by decide +kernel) (by decide +kernel)
set_option maxRecDepth 20000 in
theorem gL_law_X5_mean : GoodIn wsL_law (wsV RL 126 RX5 yX5_mean wsX5_mean) := goodIn_app (goodIn_of _ (by decide +kernel)) ggL_law_X5_mean
