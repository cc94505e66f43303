theorem dX5_bands_11 : decode cX5_bands 11 = .ok (.iconst 0, 1) := by decide +kernel
theorem dX5_bands_12 : decode cX5_bands 12 = .ok (.istore_n 2, 1) := by decide +kernel
theorem dX5_bands_13 : decode cX5_bands 13 = .ok (.iconst 0, 1) := by decide +kernel
theorem dX5_bands_14 : decode cX5_bands 14 = .ok (.istore_n 3, 1) := by decide +kernel
theorem dX5_bands_15 : decode cX5_bands 15 = .ok (.iload_n 3, 1) := by decide +kernel
theorem dX5_bands_16 : decode cX5_bands 16 = .ok (.aload_n 0, 1) := by decide +kernel
theorem dX5_bands_17 : decode cX5_bands 17 = .ok (.getfield 42, 3) := by decide +kernel
theorem dX5_bands_20 : decode cX5_bands 20 = .ok (.if_icmp .ge 136, 3) := by decide +kernel
theorem dX5_bands_23 : decode cX5_bands 23 = .ok (.iconst 1, 1) := by decide +kernel
theorem dX5_bands_24 : decode cX5_bands 24 = .ok (.istore 4, 2) := by decide +kernel
theorem dX5_bands_26 : decode cX5_bands 26 = .ok (.iload 4, 2) := by decide +kernel
theorem dX5_bands_28 : decode cX5_bands 28 = .ok (.aload_n 0, 1) := by decide +kernel
theorem dX5_bands_29 : decode cX5_bands 29 = .ok (.getfield 38, 3) := by decide +kernel
theorem dX5_bands_32 : decode cX5_bands 32 = .ok (.if_icmp .ge 118, 3) := by decide +kernel
theorem dX5_bands_35 : decode cX5_bands 35 = .ok (.aload_n 0, 1) := by decide +kernel
theorem dX5_bands_36 : decode cX5_bands 36 = .ok (.getfield 16, 3) := by decide +kernel
theorem dX5_bands_39 : decode cX5_bands 39 = .ok (.aload_n 0, 1) := by decide +kernel
theorem dX5_bands_40 : decode cX5_bands 40 = .ok (.getfield 38, 3) := by decide +kernel
theorem dX5_bands_43 : decode cX5_bands 43 = .ok (.iload_n 3, 1) := by decide +kernel
theorem dX5_bands_44 : decode cX5_bands 44 = .ok (.imul, 1) := by decide +kernel
theorem dX5_bands_45 : decode cX5_bands 45 = .ok (.iload 4, 2) := by decide +kernel
theorem dX5_bands_47 : decode cX5_bands 47 = .ok (.iadd, 1) := by decide +kernel
theorem dX5_bands_48 : decode cX5_bands 48 = .ok (.iaload, 1) := by decide +kernel
theorem dX5_bands_49 : decode cX5_bands 49 = .ok (.aload_n 0, 1) := by decide +kernel
theorem dX5_bands_50 : decode cX5_bands 50 = .ok (.getfield 16, 3) := by decide +kernel
theorem dX5_bands_53 : decode cX5_bands 53 = .ok (.aload_n 0, 1) := by decide +kernel
theorem dX5_bands_54 : decode cX5_bands 54 = .ok (.getfield 38, 3) := by decide +kernel
theorem dX5_bands_57 : decode cX5_bands 57 = .ok (.iload_n 3, 1) := by decide +kernel
theorem dX5_bands_58 : decode cX5_bands 58 = .ok (.imul, 1) := by decide +kernel
theorem dX5_bands_59 : decode cX5_bands 59 = .ok (.iload 4, 2) := by decide +kernel
theorem dX5_bands_61 : decode cX5_bands 61 = .ok (.iadd, 1) := by decide +kernel
theorem dX5_bands_62 : decode cX5_bands 62 = .ok (.iconst 1, 1) := by decide +kernel
theorem dX5_bands_63 : decode cX5_bands 63 = .ok (.isub, 1) := by decide +kernel
theorem dX5_bands_64 : decode cX5_bands 64 = .ok (.iaload, 1) := by decide +kernel
theorem dX5_bands_65 : decode cX5_bands 65 = .ok (.isub, 1) := by decide +kernel
theorem dX5_bands_66 : decode cX5_bands 66 = .ok (.istore 5, 2) := by decide +kernel
theorem dX5_bands_68 : decode cX5_bands 68 = .ok (.aload_n 0, 1) := by decide +kernel
theorem dX5_bands_69 : decode cX5_bands 69 = .ok (.getfield 19, 3) := by decide +kernel
theorem dX5_bands_72 : decode cX5_bands 72 = .ok (.aload_n 0, 1) := by decide +kernel
theorem dX5_bands_73 : decode cX5_bands 73 = .ok (.getfield 38, 3) := by decide +kernel
theorem dX5_bands_76 : decode cX5_bands 76 = .ok (.iload_n 3, 1) := by decide +kernel
theorem dX5_bands_77 : decode cX5_bands 77 = .ok (.imul, 1) := by decide +kernel
theorem dX5_bands_78 : decode cX5_bands 78 = .ok (.iload 4, 2) := by decide +kernel
theorem dX5_bands_80 : decode cX5_bands 80 = .ok (.iadd, 1) := by decide +kernel
theorem dX5_bands_81 : decode cX5_bands 81 = .ok (.iaload, 1) := by decide +kernel
theorem dX5_bands_82 : decode cX5_bands 82 = .ok (.aload_n 0, 1) := by decide +kernel
theorem dX5_bands_83 : decode cX5_bands 83 = .ok (.getfield 19, 3) := by decide +kernel
theorem dX5_bands_86 : decode cX5_bands 86 = .ok (.aload_n 0, 1) := by decide +kernel
theorem dX5_bands_87 : decode cX5_bands 87 = .ok (.getfield 38, 3) := by decide +kernel
theorem dX5_bands_90 : decode cX5_bands 90 = .ok (.iload_n 3, 1) := by decide +kernel
theorem dX5_bands_91 : decode cX5_bands 91 = .ok (.imul, 1) := by decide +kernel
theorem dX5_bands_92 : decode cX5_bands 92 = .ok (.iload 4, 2) := by decide +kernel
theorem dX5_bands_94 : decode cX5_bands 94 = .ok (.iadd, 1) := by decide +kernel
theorem dX5_bands_95 : decode cX5_bands 95 = .ok (.iconst 1, 1) := by decide +kernel
theorem dX5_bands_96 : decode cX5_bands 96 = .ok (.isub, 1) := by decide +kernel
theorem dX5_bands_97 : decode cX5_bands 97 = .ok (.iaload, 1) := by decide +kernel
theorem dX5_bands_98 : decode cX5_bands 98 = .ok (.isub, 1) := by decide +kernel
theorem dX5_bands_99 : decode cX5_bands 99 = .ok (.istore 6, 2) := by decide +kernel
theorem dX5_bands_101 : decode cX5_bands 101 = .ok (.iload_n 1, 1) := by decide +kernel
theorem dX5_bands_102 : decode cX5_bands 102 = .ok (.iload 5, 2) := by decide +kernel
theorem dX5_bands_104 : decode cX5_bands 104 = .ok (.iload 5, 2) := by decide +kernel
theorem dX5_bands_106 : decode cX5_bands 106 = .ok (.imul, 1) := by decide +kernel
theorem dX5_bands_107 : decode cX5_bands 107 = .ok (.iconst 1, 1) := by decide +kernel
theorem dX5_bands_108 : decode cX5_bands 108 = .ok (.if_icmp .ne 12, 3) := by decide +kernel
theorem dX5_bands_111 : decode cX5_bands 111 = .ok (.iload 6, 2) := by decide +kernel
theorem dX5_bands_113 : decode cX5_bands 113 = .ok (.ifCond .ne 7, 3) := by decide +kernel
theorem dX5_bands_116 : decode cX5_bands 116 = .ok (.iconst 1, 1) := by decide +kernel
theorem dX5_bands_117 : decode cX5_bands 117 = .ok (.goto 22, 3) := by decide +kernel
theorem dX5_bands_120 : decode cX5_bands 120 = .ok (.iload 5, 2) := by decide +kernel
theorem dX5_bands_122 : decode cX5_bands 122 = .ok (.ifCond .ne 16, 3) := by decide +kernel
theorem dX5_bands_125 : decode cX5_bands 125 = .ok (.iload 6, 2) := by decide +kernel
theorem dX5_bands_127 : decode cX5_bands 127 = .ok (.iload 6, 2) := by decide +kernel
theorem dX5_bands_129 : decode cX5_bands 129 = .ok (.imul, 1) := by decide +kernel
theorem dX5_bands_130 : decode cX5_bands 130 = .ok (.iconst 1, 1) := by decide +kernel
theorem dX5_bands_131 : decode cX5_bands 131 = .ok (.if_icmp .ne 7, 3) := by decide +kernel
theorem dX5_bands_134 : decode cX5_bands 134 = .ok (.iconst (-1), 1) := by decide +kernel
theorem dX5_bands_135 : decode cX5_bands 135 = .ok (.goto 4, 3) := by decide +kernel
theorem dX5_bands_138 : decode cX5_bands 138 = .ok (.iconst 0, 1) := by decide +kernel
theorem dX5_bands_139 : decode cX5_bands 139 = .ok (.iadd, 1) := by decide +kernel
theorem dX5_bands_140 : decode cX5_bands 140 = .ok (.istore_n 1, 1) := by decide +kernel
theorem dX5_bands_141 : decode cX5_bands 141 = .ok (.iinc 2 1, 3) := by decide +kernel
theorem dX5_bands_144 : decode cX5_bands 144 = .ok (.iinc 4 1, 3) := by decide +kernel
theorem dX5_bands_147 : decode cX5_bands 147 = .ok (.goto (-121), 3) := by decide +kernel
theorem dX5_bands_150 : decode cX5_bands 150 = .ok (.iinc 3 1, 3) := by decide +kernel
theorem dX5_bands_153 : decode cX5_bands 153 = .ok (.goto (-138), 3) := by decide +kernel
theorem dX5_bands_156 : decode cX5_bands 156 = .ok (.iload_n 2, 1) := by decide +kernel
theorem dX5_bands_157 : decode cX5_bands 157 = .ok (.ifCond .ne 7, 3) := by decide +kernel
theorem dX5_bands_160 : decode cX5_bands 160 = .ok (.dconst 0, 1) := by decide +kernel
theorem dX5_bands_161 : decode cX5_bands 161 = .ok (.goto 8, 3) := by decide +kernel
theorem dX5_bands_164 : decode cX5_bands 164 = .ok (.iload_n 1, 1) := by decide +kernel
theorem dX5_bands_165 : decode cX5_bands 165 = .ok (.i2d, 1) := by decide +kernel
theorem dX5_bands_166 : decode cX5_bands 166 = .ok (.iload_n 2, 1) := by decide +kernel
theorem dX5_bands_167 : decode cX5_bands 167 = .ok (.i2d, 1) := by decide +kernel
theorem dX5_bands_168 : decode cX5_bands 168 = .ok (.ddiv, 1) := by decide +kernel
theorem dX5_bands_169 : decode cX5_bands 169 = .ok (.dreturn, 1) := by decide +kernel
set_option maxRecDepth 20000 in
theorem ggX5_number_X5_places : GoodIn wsX5_number wsX5_places := goodIn_r _ [7, 2, 1, 19, 20, 21, 22, 23, 24, 25, 26, 27, 28, 29, 30, 31, 32, 33] (by decide +kernel) (by decide +kernel)
set_option maxRecDepth 20000 in
theorem gX5_number_X5_places : GoodIn wsX5_number (wsV RX5 59 RX5 yX5_places wsX5_places) := goodIn_app (goodIn_of _ (by decide +kernel)) ggX5_number_X5_places
set_option maxRecDepth 20000 in
theorem ggX5_number_X5_spread : GoodIn wsX5_number wsX5_spread := goodIn_r _ [11, 2, 12, 13, 14, 6, 15, 1, 16, 17, 18, 19, 20, 21, 22, 23, 24, 25, 26, 27, 28, 29, 30, 31, 32, 33] (by decide +kernel) (by decide +kernel)
set_option maxRecDepth 20000 in
theorem gX5_number_X5_spread : GoodIn wsX5_number (wsV RX5 101 RX5 yX5_spread wsX5_spread) := goodIn_app (goodIn_of _ (by decide +kernel)) ggX5_number_X5_spread
theorem dX5_number_0 : decode cX5_number 0 = .ok (.iconst 0, 1) := by decide +kernel
theorem dX5_number_1 : decode cX5_number 1 = .ok (.istore_n 3, 1) := by decide +kernel
theorem dX5_number_2 : decode cX5_number 2 = .ok (.iload_n 3, 1) := by decide +kernel
theorem dX5_number_3 : decode cX5_number 3 = .ok (.aload_n 0, 1) := by decide +kernel
theorem dX5_number_4 : decode cX5_number 4 = .ok (.invokevirtual 59, 3) := by decide +kernel
theorem dX5_number_7 : decode cX5_number 7 = .ok (.if_icmp .ge 28, 3) := by decide +kernel
theorem dX5_number_10 : decode cX5_number 10 = .ok (.aload_n 2, 1) := by decide +kernel
theorem dX5_number_11 : decode cX5_number 11 = .ok (.iload_n 3, 1) := by decide +kernel
theorem dX5_number_12 : decode cX5_number 12 = .ok (.aload_n 1, 1) := by decide +kernel
theorem dX5_number_13 : decode cX5_number 13 = .ok (.iload_n 3, 1) := by decide +kernel
theorem dX5_number_14 : decode cX5_number 14 = .ok (.iaload, 1) := by decide +kernel
theorem dX5_number_15 : decode cX5_number 15 = .ok (.sipush 128, 3) := by decide +kernel
theorem dX5_number_18 : decode cX5_number 18 = .ok (.if_icmp .ge 9, 3) := by decide +kernel
theorem dX5_number_21 : decode cX5_number 21 = .ok (.iload_n 3, 1) := by decide +kernel
theorem dX5_number_22 : decode cX5_number 22 = .ok (.iconst 1, 1) := by decide +kernel
theorem dX5_number_23 : decode cX5_number 23 = .ok (.iadd, 1) := by decide +kernel
theorem dX5_number_24 : decode cX5_number 24 = .ok (.goto 4, 3) := by decide +kernel
theorem dX5_number_27 : decode cX5_number 27 = .ok (.iconst 0, 1) := by decide +kernel
theorem dX5_number_28 : decode cX5_number 28 = .ok (.iastore, 1) := by decide +kernel
theorem dX5_number_29 : decode cX5_number 29 = .ok (.iinc 3 1, 3) := by decide +kernel
theorem dX5_number_32 : decode cX5_number 32 = .ok (.goto (-30), 3) := by decide +kernel
theorem dX5_number_35 : decode cX5_number 35 = .ok (.iconst 1, 1) := by decide +kernel
theorem dX5_number_36 : decode cX5_number 36 = .ok (.istore_n 3, 1) := by decide +kernel
theorem dX5_number_37 : decode cX5_number 37 = .ok (.iload_n 3, 1) := by decide +kernel
theorem dX5_number_38 : decode cX5_number 38 = .ok (.ifCond .eq 66, 3) := by decide +kernel
theorem dX5_number_41 : decode cX5_number 41 = .ok (.iconst 0, 1) := by decide +kernel
theorem dX5_number_42 : decode cX5_number 42 = .ok (.istore_n 3, 1) := by decide +kernel
theorem dX5_number_43 : decode cX5_number 43 = .ok (.iconst 0, 1) := by decide +kernel
theorem dX5_number_44 : decode cX5_number 44 = .ok (.istore 4, 2) := by decide +kernel
theorem dX5_number_46 : decode cX5_number 46 = .ok (.iload 4, 2) := by decide +kernel
theorem dX5_number_48 : decode cX5_number 48 = .ok (.aload_n 0, 1) := by decide +kernel
theorem dX5_number_49 : decode cX5_number 49 = .ok (.getfield 42, 3) := by decide +kernel
theorem dX5_number_52 : decode cX5_number 52 = .ok (.if_icmp .ge 49, 3) := by decide +kernel
theorem dX5_number_55 : decode cX5_number 55 = .ok (.iconst 0, 1) := by decide +kernel
theorem dX5_number_56 : decode cX5_number 56 = .ok (.istore 5, 2) := by decide +kernel
theorem dX5_number_58 : decode cX5_number 58 = .ok (.iload 5, 2) := by decide +kernel
theorem dX5_number_60 : decode cX5_number 60 = .ok (.aload_n 0, 1) := by decide +kernel
theorem dX5_number_61 : decode cX5_number 61 = .ok (.getfield 38, 3) := by decide +kernel
theorem dX5_number_64 : decode cX5_number 64 = .ok (.if_icmp .ge 31, 3) := by decide +kernel
theorem dX5_number_67 : decode cX5_number 67 = .ok (.aload_n 0, 1) := by decide +kernel
theorem dX5_number_68 : decode cX5_number 68 = .ok (.aload_n 2, 1) := by decide +kernel
theorem dX5_number_69 : decode cX5_number 69 = .ok (.iload 5, 2) := by decide +kernel
theorem dX5_number_71 : decode cX5_number 71 = .ok (.iload 4, 2) := by decide +kernel
theorem dX5_number_73 : decode cX5_number 73 = .ok (.invokevirtual 101, 3) := by decide +kernel
theorem dX5_number_76 : decode cX5_number 76 = .ok (.ifCond .ne 7, 3) := by decide +kernel
theorem dX5_number_79 : decode cX5_number 79 = .ok (.iload_n 3, 1) := by decide +kernel
theorem dX5_number_80 : decode cX5_number 80 = .ok (.ifCond .eq 7, 3) := by decide +kernel
theorem dX5_number_83 : decode cX5_number 83 = .ok (.iconst 1, 1) := by decide +kernel
theorem dX5_number_84 : decode cX5_number 84 = .ok (.goto 4, 3) := by decide +kernel
theorem dX5_number_87 : decode cX5_number 87 = .ok (.iconst 0, 1) := by decide +kernel
theorem dX5_number_88 : decode cX5_number 88 = .ok (.istore_n 3, 1) := by decide +kernel
theorem dX5_number_89 : decode cX5_number 89 = .ok (.iinc 5 1, 3) := by decide +kernel
theorem dX5_number_92 : decode cX5_number 92 = .ok (.goto (-34), 3) := by decide +kernel
theorem dX5_number_95 : decode cX5_number 95 = .ok (.iinc 4 1, 3) := by decide +kernel
theorem dX5_number_98 : decode cX5_number 98 = .ok (.goto (-52), 3) := by decide +kernel
theorem dX5_number_101 : decode cX5_number 101 = .ok (.goto (-64), 3) := by decide +kernel
theorem dX5_number_104 : decode cX5_number 104 = .ok (.return_, 1) := by decide +kernel
set_option maxRecDepth 20000 in
theorem ggX5_spread_X5_isPlace : GoodIn wsX5_spread wsX5_isPlace := goodIn_r _ [6, 1, 7, 8, 9, 5, 10, 11, 12, 13, 14, 15, 16, 17, 18, 19, 20, 21, 22, 23, 24, 25] (by decide +kernel) (by decide +kernel)
set_option maxRecDepth 20000 in
theorem gX5_spread_X5_isPlace : GoodIn wsX5_spread (wsV RX5 55 RX5 yX5_isPlace wsX5_isPlace) := goodIn_app (goodIn_of _ (by decide +kernel)) ggX5_spread_X5_isPlace
theorem dX5_spread_0 : decode cX5_spread 0 = .ok (.aload_n 1, 1) := by decide +kernel
theorem dX5_spread_1 : decode cX5_spread 1 = .ok (.aload_n 0, 1) := by decide +kernel
theorem dX5_spread_2 : decode cX5_spread 2 = .ok (.getfield 38, 3) := by decide +kernel
theorem dX5_spread_5 : decode cX5_spread 5 = .ok (.iload_n 3, 1) := by decide +kernel
theorem dX5_spread_6 : decode cX5_spread 6 = .ok (.imul, 1) := by decide +kernel
theorem dX5_spread_7 : decode cX5_spread 7 = .ok (.iload_n 2, 1) := by decide +kernel
theorem dX5_spread_8 : decode cX5_spread 8 = .ok (.iadd, 1) := by decide +kernel
theorem dX5_spread_9 : decode cX5_spread 9 = .ok (.iaload, 1) := by decide +kernel
theorem dX5_spread_10 : decode cX5_spread 10 = .ok (.istore 4, 2) := by decide +kernel
theorem dX5_spread_12 : decode cX5_spread 12 = .ok (.iload 4, 2) := by decide +kernel
theorem dX5_spread_14 : decode cX5_spread 14 = .ok (.ifCond .ne 5, 3) := by decide +kernel
theorem dX5_spread_17 : decode cX5_spread 17 = .ok (.iconst 0, 1) := by decide +kernel
theorem dX5_spread_18 : decode cX5_spread 18 = .ok (.ireturn, 1) := by decide +kernel
theorem dX5_spread_19 : decode cX5_spread 19 = .ok (.iload 4, 2) := by decide +kernel
theorem dX5_spread_21 : decode cX5_spread 21 = .ok (.istore 5, 2) := by decide +kernel
theorem dX5_spread_23 : decode cX5_spread 23 = .ok (.iload_n 3, 1) := by decide +kernel
theorem dX5_spread_24 : decode cX5_spread 24 = .ok (.iconst 1, 1) := by decide +kernel
theorem dX5_spread_25 : decode cX5_spread 25 = .ok (.isub, 1) := by decide +kernel
theorem dX5_spread_26 : decode cX5_spread 26 = .ok (.istore 6, 2) := by decide +kernel
theorem dX5_spread_28 : decode cX5_spread 28 = .ok (.iload 6, 2) := by decide +kernel
theorem dX5_spread_30 : decode cX5_spread 30 = .ok (.iload_n 3, 1) := by decide +kernel
theorem dX5_spread_31 : decode cX5_spread 31 = .ok (.iconst 1, 1) := by decide +kernel
theorem dX5_spread_32 : decode cX5_spread 32 = .ok (.iadd, 1) := by decide +kernel
theorem dX5_spread_33 : decode cX5_spread 33 = .ok (.if_icmp .gt 70, 3) := by decide +kernel
theorem dX5_spread_36 : decode cX5_spread 36 = .ok (.iload_n 2, 1) := by decide +kernel
theorem dX5_spread_37 : decode cX5_spread 37 = .ok (.iconst 1, 1) := by decide +kernel
theorem dX5_spread_38 : decode cX5_spread 38 = .ok (.isub, 1) := by decide +kernel
theorem dX5_spread_39 : decode cX5_spread 39 = .ok (.istore 7, 2) := by decide +kernel
theorem dX5_spread_41 : decode cX5_spread 41 = .ok (.iload 7, 2) := by decide +kernel
theorem dX5_spread_43 : decode cX5_spread 43 = .ok (.iload_n 2, 1) := by decide +kernel
theorem dX5_spread_44 : decode cX5_spread 44 = .ok (.iconst 1, 1) := by decide +kernel
theorem dX5_spread_45 : decode cX5_spread 45 = .ok (.iadd, 1) := by decide +kernel
theorem dX5_spread_46 : decode cX5_spread 46 = .ok (.if_icmp .gt 51, 3) := by decide +kernel
theorem dX5_spread_49 : decode cX5_spread 49 = .ok (.aload_n 0, 1) := by decide +kernel
theorem dX5_spread_50 : decode cX5_spread 50 = .ok (.iload 7, 2) := by decide +kernel
theorem dX5_spread_52 : decode cX5_spread 52 = .ok (.iload 6, 2) := by decide +kernel
theorem dX5_spread_54 : decode cX5_spread 54 = .ok (.invokevirtual 55, 3) := by decide +kernel
theorem dX5_spread_57 : decode cX5_spread 57 = .ok (.ifCond .eq 34, 3) := by decide +kernel
theorem dX5_spread_60 : decode cX5_spread 60 = .ok (.aload_n 1, 1) := by decide +kernel
theorem dX5_spread_61 : decode cX5_spread 61 = .ok (.aload_n 0, 1) := by decide +kernel
theorem dX5_spread_62 : decode cX5_spread 62 = .ok (.getfield 38, 3) := by decide +kernel
theorem dX5_spread_65 : decode cX5_spread 65 = .ok (.iload 6, 2) := by decide +kernel
theorem dX5_spread_67 : decode cX5_spread 67 = .ok (.imul, 1) := by decide +kernel
theorem dX5_spread_68 : decode cX5_spread 68 = .ok (.iload 7, 2) := by decide +kernel
theorem dX5_spread_70 : decode cX5_spread 70 = .ok (.iadd, 1) := by decide +kernel
theorem dX5_spread_71 : decode cX5_spread 71 = .ok (.iaload, 1) := by decide +kernel
theorem dX5_spread_72 : decode cX5_spread 72 = .ok (.iload 5, 2) := by decide +kernel
theorem dX5_spread_74 : decode cX5_spread 74 = .ok (.if_icmp .le 17, 3) := by decide +kernel
theorem dX5_spread_77 : decode cX5_spread 77 = .ok (.aload_n 1, 1) := by decide +kernel
theorem dX5_spread_78 : decode cX5_spread 78 = .ok (.aload_n 0, 1) := by decide +kernel
theorem dX5_spread_79 : decode cX5_spread 79 = .ok (.getfield 38, 3) := by decide +kernel
theorem dX5_spread_82 : decode cX5_spread 82 = .ok (.iload 6, 2) := by decide +kernel
theorem dX5_spread_84 : decode cX5_spread 84 = .ok (.imul, 1) := by decide +kernel
theorem dX5_spread_85 : decode cX5_spread 85 = .ok (.iload 7, 2) := by decide +kernel
theorem dX5_spread_87 : decode cX5_spread 87 = .ok (.iadd, 1) := by decide +kernel
theorem dX5_spread_88 : decode cX5_spread 88 = .ok (.iaload, 1) := by decide +kernel
theorem dX5_spread_89 : decode cX5_spread 89 = .ok (.istore 5, 2) := by decide +kernel
theorem dX5_spread_91 : decode cX5_spread 91 = .ok (.iinc 7 1, 3) := by decide +kernel
theorem dX5_spread_94 : decode cX5_spread 94 = .ok (.goto (-53), 3) := by decide +kernel
theorem dX5_spread_97 : decode cX5_spread 97 = .ok (.iinc 6 1, 3) := by decide +kernel
theorem dX5_spread_100 : decode cX5_spread 100 = .ok (.goto (-72), 3) := by decide +kernel
theorem dX5_spread_103 : decode cX5_spread 103 = .ok (.aload_n 1, 1) := by decide +kernel
theorem dX5_spread_104 : decode cX5_spread 104 = .ok (.aload_n 0, 1) := by decide +kernel
theorem dX5_spread_105 : decode cX5_spread 105 = .ok (.getfield 38, 3) := by decide +kernel
theorem dX5_spread_108 : decode cX5_spread 108 = .ok (.iload_n 3, 1) := by decide +kernel
theorem dX5_spread_109 : decode cX5_spread 109 = .ok (.imul, 1) := by decide +kernel
theorem dX5_spread_110 : decode cX5_spread 110 = .ok (.iload_n 2, 1) := by decide +kernel
theorem dX5_spread_111 : decode cX5_spread 111 = .ok (.iadd, 1) := by decide +kernel
theorem dX5_spread_112 : decode cX5_spread 112 = .ok (.iload 5, 2) := by decide +kernel
theorem dX5_spread_114 : decode cX5_spread 114 = .ok (.iastore, 1) := by decide +kernel
theorem dX5_spread_115 : decode cX5_spread 115 = .ok (.iload 5, 2) := by decide +kernel
theorem dX5_spread_117 : decode cX5_spread 117 = .ok (.iload 4, 2) := by decide +kernel
theorem dX5_spread_119 : decode cX5_spread 119 = .ok (.if_icmp .le 7, 3) := by decide +kernel
theorem dX5_spread_122 : decode cX5_spread 122 = .ok (.iconst 1, 1) := by decide +kernel
theorem dX5_spread_123 : decode cX5_spread 123 = .ok (.goto 4, 3) := by decide +kernel
theorem dX5_spread_126 : decode cX5_spread 126 = .ok (.iconst 0, 1) := by decide +kernel
theorem dX5_spread_127 : decode cX5_spread 127 = .ok (.ireturn, 1) := by decide +kernel
set_option maxRecDepth 20000 in
theorem ggX5_count_X5_places : GoodIn wsX5_count wsX5_places := goodIn_r _ [5, 6, 7, 8, 9, 10, 11, 12, 13, 14, 15, 16, 17, 18, 19, 20, 21, 22] (by decide +kernel) (by decide +kernel)
set_option maxRecDepth 20000 in
theorem gX5_count_X5_places : GoodIn wsX5_count (wsV RX5 59 RX5 yX5_places wsX5_places) := goodIn_app (goodIn_of _ (by decide +kernel)) ggX5_count_X5_places
theorem dX5_count_0 : decode cX5_count 0 = .ok (.iconst 0, 1) := by decide +kernel
theorem dX5_count_1 : decode cX5_count 1 = .ok (.istore_n 2, 1) := by decide +kernel
theorem dX5_count_2 : decode cX5_count 2 = .ok (.iconst 0, 1) := by decide +kernel
theorem dX5_count_3 : decode cX5_count 3 = .ok (.istore_n 3, 1) := by decide +kernel
theorem dX5_count_4 : decode cX5_count 4 = .ok (.iload_n 3, 1) := by decide +kernel
theorem dX5_count_5 : decode cX5_count 5 = .ok (.aload_n 0, 1) := by decide +kernel
theorem dX5_count_6 : decode cX5_count 6 = .ok (.invokevirtual 59, 3) := by decide +kernel
theorem dX5_count_9 : decode cX5_count 9 = .ok (.if_icmp .ge 26, 3) := by decide +kernel
theorem dX5_count_12 : decode cX5_count 12 = .ok (.aload_n 1, 1) := by decide +kernel
theorem dX5_count_13 : decode cX5_count 13 = .ok (.iload_n 3, 1) := by decide +kernel
theorem dX5_count_14 : decode cX5_count 14 = .ok (.iaload, 1) := by decide +kernel
theorem dX5_count_15 : decode cX5_count 15 = .ok (.iload_n 3, 1) := by decide +kernel
theorem dX5_count_16 : decode cX5_count 16 = .ok (.iconst 1, 1) := by decide +kernel
theorem dX5_count_17 : decode cX5_count 17 = .ok (.iadd, 1) := by decide +kernel
theorem dX5_count_18 : decode cX5_count 18 = .ok (.if_icmp .ne 9, 3) := by decide +kernel
theorem dX5_count_21 : decode cX5_count 21 = .ok (.iload_n 2, 1) := by decide +kernel
theorem dX5_count_22 : decode cX5_count 22 = .ok (.iconst 1, 1) := by decide +kernel
theorem dX5_count_23 : decode cX5_count 23 = .ok (.iadd, 1) := by decide +kernel
theorem dX5_count_24 : decode cX5_count 24 = .ok (.goto 4, 3) := by decide +kernel
theorem dX5_count_27 : decode cX5_count 27 = .ok (.iload_n 2, 1) := by decide +kernel
theorem dX5_count_28 : decode cX5_count 28 = .ok (.istore_n 2, 1) := by decide +kernel
theorem dX5_count_29 : decode cX5_count 29 = .ok (.iinc 3 1, 3) := by decide +kernel
theorem dX5_count_32 : decode cX5_count 32 = .ok (.goto (-28), 3) := by decide +kernel
theorem dX5_count_35 : decode cX5_count 35 = .ok (.iload_n 2, 1) := by decide +kernel
theorem dX5_count_36 : decode cX5_count 36 = .ok (.ireturn, 1) := by decide +kernel
set_option maxRecDepth 20000 in
theorem ggX5_isKept_X5_places : GoodIn wsX5_isKept wsX5_places := goodIn_r _ [7, 8, 9, 10, 11, 12, 13, 14, 15, 16, 17, 18, 19, 20, 21, 22, 23, 24] (by decide +kernel) (by decide +kernel)
set_option maxRecDepth 20000 in
theorem gX5_isKept_X5_places : GoodIn wsX5_isKept (wsV RX5 59 RX5 yX5_places wsX5_places) := goodIn_app (goodIn_of _ (by decide +kernel)) ggX5_isKept_X5_places
theorem dX5_isKept_0 : decode cX5_isKept 0 = .ok (.iconst 1, 1) := by decide +kernel
theorem dX5_isKept_1 : decode cX5_isKept 1 = .ok (.istore_n 2, 1) := by decide +kernel
theorem dX5_isKept_2 : decode cX5_isKept 2 = .ok (.iconst 0, 1) := by decide +kernel
theorem dX5_isKept_3 : decode cX5_isKept 3 = .ok (.istore_n 3, 1) := by decide +kernel
theorem dX5_isKept_4 : decode cX5_isKept 4 = .ok (.iload_n 3, 1) := by decide +kernel
theorem dX5_isKept_5 : decode cX5_isKept 5 = .ok (.aload_n 0, 1) := by decide +kernel
theorem dX5_isKept_6 : decode cX5_isKept 6 = .ok (.invokevirtual 59, 3) := by decide +kernel
theorem dX5_isKept_9 : decode cX5_isKept 9 = .ok (.if_icmp .ge 52, 3) := by decide +kernel
theorem dX5_isKept_12 : decode cX5_isKept 12 = .ok (.iload_n 2, 1) := by decide +kernel
theorem dX5_isKept_13 : decode cX5_isKept 13 = .ok (.ifCond .eq 40, 3) := by decide +kernel
theorem dX5_isKept_16 : decode cX5_isKept 16 = .ok (.aload_n 0, 1) := by decide +kernel
theorem dX5_isKept_17 : decode cX5_isKept 17 = .ok (.getfield 22, 3) := by decide +kernel
theorem dX5_isKept_20 : decode cX5_isKept 20 = .ok (.iload_n 3, 1) := by decide +kernel
theorem dX5_isKept_21 : decode cX5_isKept 21 = .ok (.iaload, 1) := by decide +kernel
theorem dX5_isKept_22 : decode cX5_isKept 22 = .ok (.iload_n 1, 1) := by decide +kernel
theorem dX5_isKept_23 : decode cX5_isKept 23 = .ok (.if_icmp .ne 7, 3) := by decide +kernel
theorem dX5_isKept_26 : decode cX5_isKept 26 = .ok (.iconst 1, 1) := by decide +kernel
theorem dX5_isKept_27 : decode cX5_isKept 27 = .ok (.goto 4, 3) := by decide +kernel
theorem dX5_isKept_30 : decode cX5_isKept 30 = .ok (.iconst 0, 1) := by decide +kernel
theorem dX5_isKept_31 : decode cX5_isKept 31 = .ok (.aload_n 0, 1) := by decide +kernel
theorem dX5_isKept_32 : decode cX5_isKept 32 = .ok (.getfield 25, 3) := by decide +kernel
theorem dX5_isKept_35 : decode cX5_isKept 35 = .ok (.iload_n 3, 1) := by decide +kernel
theorem dX5_isKept_36 : decode cX5_isKept 36 = .ok (.iaload, 1) := by decide +kernel
theorem dX5_isKept_37 : decode cX5_isKept 37 = .ok (.iload_n 1, 1) := by decide +kernel
theorem dX5_isKept_38 : decode cX5_isKept 38 = .ok (.if_icmp .ne 7, 3) := by decide +kernel
theorem dX5_isKept_41 : decode cX5_isKept 41 = .ok (.iconst 1, 1) := by decide +kernel
theorem dX5_isKept_42 : decode cX5_isKept 42 = .ok (.goto 4, 3) := by decide +kernel
theorem dX5_isKept_45 : decode cX5_isKept 45 = .ok (.iconst 0, 1) := by decide +kernel
theorem dX5_isKept_46 : decode cX5_isKept 46 = .ok (.if_icmp .ne 7, 3) := by decide +kernel
theorem dX5_isKept_49 : decode cX5_isKept 49 = .ok (.iconst 1, 1) := by decide +kernel
theorem dX5_isKept_50 : decode cX5_isKept 50 = .ok (.goto 4, 3) := by decide +kernel
theorem dX5_isKept_53 : decode cX5_isKept 53 = .ok (.iconst 0, 1) := by decide +kernel
theorem dX5_isKept_54 : decode cX5_isKept 54 = .ok (.istore_n 2, 1) := by decide +kernel
theorem dX5_isKept_55 : decode cX5_isKept 55 = .ok (.iinc 3 1, 3) := by decide +kernel
theorem dX5_isKept_58 : decode cX5_isKept 58 = .ok (.goto (-54), 3) := by decide +kernel
theorem dX5_isKept_61 : decode cX5_isKept 61 = .ok (.iload_n 2, 1) := by decide +kernel
theorem dX5_isKept_62 : decode cX5_isKept 62 = .ok (.ireturn, 1) := by decide +kernel
set_option maxRecDepth 20000 in
theorem ggX5_signs_X5_makeGrey : GoodIn wsX5_signs wsX5_makeGrey := goodIn_r _ [10, 11, 12, 13, 14, 2, 4, 15, 16, 17, 9, 18, 19, 20, 21, 22, 23, 24, 25, 49, 50, 51, 52, 53, 54, 55, 56, 57, 58, 59, 60, 61, 62, 63] (by decide +kernel) (by decide +kernel)
set_option maxRecDepth 20000 in
theorem gX5_signs_X5_makeGrey : GoodIn wsX5_signs (wsV RX5 91 RX5 yX5_makeGrey wsX5_makeGrey) := goodIn_app (goodIn_of _ (by decide +kernel)) ggX5_signs_X5_makeGrey
set_option maxRecDepth 20000 in
theorem ggX5_signs_X5_number : GoodIn wsX5_signs wsX5_number := goodIn_r _ [29, 13, 11, 15, 16, 17, 9, 18, 30, 31, 32, 33, 34, 35, 36, 37, 38, 39, 40, 49, 50, 51, 52, 53, 54, 55, 56, 57, 58, 59, 60, 61, 62, 63] (by decide +kernel) (by decide +kernel)
set_option maxRecDepth 20000 in
theorem gX5_signs_X5_number : GoodIn wsX5_signs (wsV RX5 105 RX5 yX5_number wsX5_number) := goodIn_app (goodIn_of _ (by decide +kernel)) ggX5_signs_X5_number
set_option maxRecDepth 20000 in
theorem ggX5_signs_X5_count : GoodIn wsX5_signs wsX5_count := goodIn_r _ [44, 15, 16, 17, 9, 18, 11, 13, 49, 50, 51, 52, 53, 54, 55, 56, 57, 58, 59, 60, 61, 62, 63] (by decide +kernel) (by decide +kernel)
set_option maxRecDepth 20000 in
theorem gX5_signs_X5_count : GoodIn wsX5_signs (wsV RX5 109 RX5 yX5_count wsX5_count) := goodIn_app (goodIn_of _ (by decide +kernel)) ggX5_signs_X5_count
set_option maxRecDepth 20000 in
theorem ggX5_signs_X5_places : GoodIn wsX5_signs wsX5_places := goodIn_r _ [18, 11, 13, 49, 50, 51, 52, 53, 54, 55, 56, 57, 58, 59, 60, 61, 62, 63] (by decide +kernel) (by decide +kernel)
set_option maxRecDepth 20000 in
theorem gX5_signs_X5_places : GoodIn wsX5_signs (wsV RX5 59 RX5 yX5_places wsX5_places) := goodIn_app (goodIn_of _ (by decide +kernel)) ggX5_signs_X5_places
set_option maxRecDepth 20000 in
theorem ggX5_signs_X5_isKept : GoodIn wsX5_signs wsX5_isKept := goodIn_r _ [48, 3, 5, 15, 16, 17, 9, 18, 11, 13, 49, 50, 51, 52, 53, 54, 55, 56, 57, 58, 59, 60, 61, 62, 63] (by decide +kernel) (by decide +kernel)
set_option maxRecDepth 20000 in
theorem gX5_signs_X5_isKept : GoodIn wsX5_signs (wsV RX5 113 RX5 yX5_isKept wsX5_isKept) := goodIn_app (goodIn_of _ (by decide +kernel)) ggX5_signs_X5_isKept
theorem dX5_signs_0 : decode cX5_signs 0 = .ok (.aload_n 0, 1) := by decide +kernel
theorem dX5_signs_1 : decode cX5_signs 1 = .ok (.iconst 0, 1) := by decide +kernel
theorem dX5_signs_2 : decode cX5_signs 2 = .ok (.putfield 48, 3) := by decide +kernel
theorem dX5_signs_5 : decode cX5_signs 5 = .ok (.aload_n 0, 1) := by decide +kernel
theorem dX5_signs_6 : decode cX5_signs 6 = .ok (.invokevirtual 91, 3) := by decide +kernel
theorem dX5_signs_9 : decode cX5_signs 9 = .ok (.aload_n 0, 1) := by decide +kernel
theorem dX5_signs_10 : decode cX5_signs 10 = .ok (.aload_n 0, 1) := by decide +kernel
theorem dX5_signs_11 : decode cX5_signs 11 = .ok (.getfield 16, 3) := by decide +kernel
theorem dX5_signs_14 : decode cX5_signs 14 = .ok (.aload_n 0, 1) := by decide +kernel
theorem dX5_signs_15 : decode cX5_signs 15 = .ok (.getfield 22, 3) := by decide +kernel
theorem dX5_signs_18 : decode cX5_signs 18 = .ok (.invokevirtual 105, 3) := by decide +kernel
theorem dX5_signs_21 : decode cX5_signs 21 = .ok (.iload_n 1, 1) := by decide +kernel
theorem dX5_signs_22 : decode cX5_signs 22 = .ok (.ifCond .eq 12, 3) := by decide +kernel
theorem dX5_signs_25 : decode cX5_signs 25 = .ok (.aload_n 0, 1) := by decide +kernel
theorem dX5_signs_26 : decode cX5_signs 26 = .ok (.aload_n 0, 1) := by decide +kernel
theorem dX5_signs_27 : decode cX5_signs 27 = .ok (.getfield 22, 3) := by decide +kernel
theorem dX5_signs_30 : decode cX5_signs 30 = .ok (.invokevirtual 109, 3) := by decide +kernel
theorem dX5_signs_33 : decode cX5_signs 33 = .ok (.ireturn, 1) := by decide +kernel
theorem dX5_signs_34 : decode cX5_signs 34 = .ok (.aload_n 0, 1) := by decide +kernel
theorem dX5_signs_35 : decode cX5_signs 35 = .ok (.aload_n 0, 1) := by decide +kernel
theorem dX5_signs_36 : decode cX5_signs 36 = .ok (.getfield 19, 3) := by decide +kernel
theorem dX5_signs_39 : decode cX5_signs 39 = .ok (.aload_n 0, 1) := by decide +kernel
theorem dX5_signs_40 : decode cX5_signs 40 = .ok (.getfield 25, 3) := by decide +kernel
theorem dX5_signs_43 : decode cX5_signs 43 = .ok (.invokevirtual 105, 3) := by decide +kernel
theorem dX5_signs_46 : decode cX5_signs 46 = .ok (.iconst 0, 1) := by decide +kernel
theorem dX5_signs_47 : decode cX5_signs 47 = .ok (.istore_n 2, 1) := by decide +kernel
theorem dX5_signs_48 : decode cX5_signs 48 = .ok (.iconst 0, 1) := by decide +kernel
theorem dX5_signs_49 : decode cX5_signs 49 = .ok (.istore_n 3, 1) := by decide +kernel
theorem dX5_signs_50 : decode cX5_signs 50 = .ok (.iload_n 3, 1) := by decide +kernel
theorem dX5_signs_51 : decode cX5_signs 51 = .ok (.aload_n 0, 1) := by decide +kernel
theorem dX5_signs_52 : decode cX5_signs 52 = .ok (.invokevirtual 59, 3) := by decide +kernel
theorem dX5_signs_55 : decode cX5_signs 55 = .ok (.if_icmp .ge 39, 3) := by decide +kernel
theorem dX5_signs_58 : decode cX5_signs 58 = .ok (.aload_n 0, 1) := by decide +kernel
theorem dX5_signs_59 : decode cX5_signs 59 = .ok (.getfield 22, 3) := by decide +kernel
theorem dX5_signs_62 : decode cX5_signs 62 = .ok (.iload_n 3, 1) := by decide +kernel
theorem dX5_signs_63 : decode cX5_signs 63 = .ok (.iaload, 1) := by decide +kernel
theorem dX5_signs_64 : decode cX5_signs 64 = .ok (.iload_n 3, 1) := by decide +kernel
theorem dX5_signs_65 : decode cX5_signs 65 = .ok (.iconst 1, 1) := by decide +kernel
theorem dX5_signs_66 : decode cX5_signs 66 = .ok (.iadd, 1) := by decide +kernel
theorem dX5_signs_67 : decode cX5_signs 67 = .ok (.if_icmp .ne 19, 3) := by decide +kernel
theorem dX5_signs_70 : decode cX5_signs 70 = .ok (.aload_n 0, 1) := by decide +kernel
theorem dX5_signs_71 : decode cX5_signs 71 = .ok (.iload_n 3, 1) := by decide +kernel
theorem dX5_signs_72 : decode cX5_signs 72 = .ok (.iconst 1, 1) := by decide +kernel
theorem dX5_signs_73 : decode cX5_signs 73 = .ok (.iadd, 1) := by decide +kernel
theorem dX5_signs_74 : decode cX5_signs 74 = .ok (.invokevirtual 113, 3) := by decide +kernel
theorem dX5_signs_77 : decode cX5_signs 77 = .ok (.ifCond .eq 9, 3) := by decide +kernel
theorem dX5_signs_80 : decode cX5_signs 80 = .ok (.iload_n 2, 1) := by decide +kernel
theorem dX5_signs_81 : decode cX5_signs 81 = .ok (.iconst 1, 1) := by decide +kernel
theorem dX5_signs_82 : decode cX5_signs 82 = .ok (.iadd, 1) := by decide +kernel
theorem dX5_signs_83 : decode cX5_signs 83 = .ok (.goto 4, 3) := by decide +kernel
theorem dX5_signs_86 : decode cX5_signs 86 = .ok (.iload_n 2, 1) := by decide +kernel
theorem dX5_signs_87 : decode cX5_signs 87 = .ok (.istore_n 2, 1) := by decide +kernel
theorem dX5_signs_88 : decode cX5_signs 88 = .ok (.iinc 3 1, 3) := by decide +kernel
theorem dX5_signs_91 : decode cX5_signs 91 = .ok (.goto (-41), 3) := by decide +kernel
theorem dX5_signs_94 : decode cX5_signs 94 = .ok (.iload_n 2, 1) := by decide +kernel
theorem dX5_signs_95 : decode cX5_signs 95 = .ok (.ireturn, 1) := by decide +kernel
set_option maxRecDepth 20000 in
theorem ggX5_note_X5_in : GoodIn wsX5_note wsX5_in := goodIn_r _ [9] (by decide +kernel) (by decide +kernel)
set_option maxRecDepth 20000 in
theorem gX5_note_X5_in : GoodIn wsX5_note (va_wsS RX5 51 yX5_in wsX5_in) := goodIn_app (goodIn_of _ (by decide +kernel)) ggX5_note_X5_in
theorem dX5_note_0 : decode cX5_note 0 = .ok (.aload_n 0, 1) := by decide +kernel
theorem dX5_note_1 : decode cX5_note 1 = .ok (.iload_n 1, 1) := by decide +kernel
theorem dX5_note_2 : decode cX5_note 2 = .ok (.iconst 0, 1) := by decide +kernel
theorem dX5_note_3 : decode cX5_note 3 = .ok (.bipush 7, 2) := by decide +kernel
theorem dX5_note_5 : decode cX5_note 5 = .ok (.invokestatic 51, 3) := by decide +kernel
theorem dX5_note_8 : decode cX5_note 8 = .ok (.ifCond .ne 7, 3) := by decide +kernel
theorem dX5_note_11 : decode cX5_note 11 = .ok (.iconst 1, 1) := by decide +kernel
theorem dX5_note_12 : decode cX5_note 12 = .ok (.goto 40, 3) := by decide +kernel
theorem dX5_note_15 : decode cX5_note 15 = .ok (.dload_n 2, 1) := by decide +kernel
theorem dX5_note_16 : decode cX5_note 16 = .ok (.ldc2_w 117, 3) := by decide +kernel
theorem dX5_note_19 : decode cX5_note 19 = .ok (.dcmp .l, 1) := by decide +kernel
theorem dX5_note_20 : decode cX5_note 20 = .ok (.ifCond .lt 11, 3) := by decide +kernel
theorem dX5_note_23 : decode cX5_note 23 = .ok (.dload_n 2, 1) := by decide +kernel
theorem dX5_note_24 : decode cX5_note 24 = .ok (.ldc2_w 119, 3) := by decide +kernel
theorem dX5_note_27 : decode cX5_note 27 = .ok (.dcmp .g, 1) := by decide +kernel
theorem dX5_note_28 : decode cX5_note 28 = .ok (.ifCond .le 7, 3) := by decide +kernel
theorem dX5_note_31 : decode cX5_note 31 = .ok (.iconst 2, 1) := by decide +kernel
theorem dX5_note_32 : decode cX5_note 32 = .ok (.goto 20, 3) := by decide +kernel
theorem dX5_note_35 : decode cX5_note 35 = .ok (.aload_n 0, 1) := by decide +kernel
theorem dX5_note_36 : decode cX5_note 36 = .ok (.getfield 28, 3) := by decide +kernel
theorem dX5_note_39 : decode cX5_note 39 = .ok (.iload_n 1, 1) := by decide +kernel
theorem dX5_note_40 : decode cX5_note 40 = .ok (.iaload, 1) := by decide +kernel
theorem dX5_note_41 : decode cX5_note 41 = .ok (.sipush 200, 3) := by decide +kernel
theorem dX5_note_44 : decode cX5_note 44 = .ok (.if_icmp .ne 7, 3) := by decide +kernel
theorem dX5_note_47 : decode cX5_note 47 = .ok (.iconst 3, 1) := by decide +kernel
theorem dX5_note_48 : decode cX5_note 48 = .ok (.goto 4, 3) := by decide +kernel
theorem dX5_note_51 : decode cX5_note 51 = .ok (.iconst 0, 1) := by decide +kernel
theorem dX5_note_52 : decode cX5_note 52 = .ok (.putfield 48, 3) := by decide +kernel
theorem dX5_note_55 : decode cX5_note 55 = .ok (.aload_n 0, 1) := by decide +kernel
theorem dX5_note_56 : decode cX5_note 56 = .ok (.getfield 48, 3) := by decide +kernel
theorem dX5_note_59 : decode cX5_note 59 = .ok (.ifCond .le 5, 3) := by decide +kernel
theorem dX5_note_62 : decode cX5_note 62 = .ok (.iconst 0, 1) := by decide +kernel
theorem dX5_note_63 : decode cX5_note 63 = .ok (.ireturn, 1) := by decide +kernel
theorem dX5_note_64 : decode cX5_note 64 = .ok (.aload_n 0, 1) := by decide +kernel
theorem dX5_note_65 : decode cX5_note 65 = .ok (.getfield 31, 3) := by decide +kernel
theorem dX5_note_68 : decode cX5_note 68 = .ok (.sipush 200, 3) := by decide +kernel
theorem dX5_note_71 : decode cX5_note 71 = .ok (.iload_n 1, 1) := by decide +kernel
theorem dX5_note_72 : decode cX5_note 72 = .ok (.imul, 1) := by decide +kernel
theorem dX5_note_73 : decode cX5_note 73 = .ok (.aload_n 0, 1) := by decide +kernel
theorem dX5_note_74 : decode cX5_note 74 = .ok (.getfield 28, 3) := by decide +kernel
theorem dX5_note_77 : decode cX5_note 77 = .ok (.iload_n 1, 1) := by decide +kernel
theorem dX5_note_78 : decode cX5_note 78 = .ok (.iaload, 1) := by decide +kernel
theorem dX5_note_79 : decode cX5_note 79 = .ok (.iadd, 1) := by decide +kernel
theorem dX5_note_80 : decode cX5_note 80 = .ok (.dload_n 2, 1) := by decide +kernel
theorem dX5_note_81 : decode cX5_note 81 = .ok (.dconst 0, 1) := by decide +kernel
theorem dX5_note_82 : decode cX5_note 82 = .ok (.dcmp .l, 1) := by decide +kernel
theorem dX5_note_83 : decode cX5_note 83 = .ok (.ifCond .ne 7, 3) := by decide +kernel
theorem dX5_note_86 : decode cX5_note 86 = .ok (.dconst 0, 1) := by decide +kernel
theorem dX5_note_87 : decode cX5_note 87 = .ok (.goto 4, 3) := by decide +kernel
theorem dX5_note_90 : decode cX5_note 90 = .ok (.dload_n 2, 1) := by decide +kernel
theorem dX5_note_91 : decode cX5_note 91 = .ok (.dastore, 1) := by decide +kernel
theorem dX5_note_92 : decode cX5_note 92 = .ok (.aload_n 0, 1) := by decide +kernel
theorem dX5_note_93 : decode cX5_note 93 = .ok (.getfield 28, 3) := by decide +kernel
theorem dX5_note_96 : decode cX5_note 96 = .ok (.iload_n 1, 1) := by decide +kernel
theorem dX5_note_97 : decode cX5_note 97 = .ok (.dup2, 1) := by decide +kernel
theorem dX5_note_98 : decode cX5_note 98 = .ok (.iaload, 1) := by decide +kernel
theorem dX5_note_99 : decode cX5_note 99 = .ok (.iconst 1, 1) := by decide +kernel
theorem dX5_note_100 : decode cX5_note 100 = .ok (.iadd, 1) := by decide +kernel
theorem dX5_note_101 : decode cX5_note 101 = .ok (.iastore, 1) := by decide +kernel
theorem dX5_note_102 : decode cX5_note 102 = .ok (.aload_n 0, 1) := by decide +kernel
theorem dX5_note_103 : decode cX5_note 103 = .ok (.getfield 28, 3) := by decide +kernel
theorem dX5_note_106 : decode cX5_note 106 = .ok (.iload_n 1, 1) := by decide +kernel
theorem dX5_note_107 : decode cX5_note 107 = .ok (.iaload, 1) := by decide +kernel
theorem dX5_note_108 : decode cX5_note 108 = .ok (.ireturn, 1) := by decide +kernel
set_option maxRecDepth 20000 in
theorem ggX5_mean_X5_in : GoodIn wsX5_mean wsX5_in := goodIn_r _ [7] (by decide +kernel) (by decide +kernel)
set_option maxRecDepth 20000 in
theorem gX5_mean_X5_in : GoodIn wsX5_mean (va_wsS RX5 51 yX5_in wsX5_in) := goodIn_app (goodIn_of _ (by decide +kernel)) ggX5_mean_X5_in
theorem dX5_mean_0 : decode cX5_mean 0 = .ok (.aload_n 0, 1) := by decide +kernel
theorem dX5_mean_1 : decode cX5_mean 1 = .ok (.iload_n 1, 1) := by decide +kernel
theorem dX5_mean_2 : decode cX5_mean 2 = .ok (.iconst 0, 1) := by decide +kernel
theorem dX5_mean_3 : decode cX5_mean 3 = .ok (.bipush 7, 2) := by decide +kernel
theorem dX5_mean_5 : decode cX5_mean 5 = .ok (.invokestatic 51, 3) := by decide +kernel
theorem dX5_mean_8 : decode cX5_mean 8 = .ok (.ifCond .ne 7, 3) := by decide +kernel
theorem dX5_mean_11 : decode cX5_mean 11 = .ok (.iconst 1, 1) := by decide +kernel
theorem dX5_mean_12 : decode cX5_mean 12 = .ok (.goto 17, 3) := by decide +kernel
theorem dX5_mean_15 : decode cX5_mean 15 = .ok (.aload_n 0, 1) := by decide +kernel
theorem dX5_mean_16 : decode cX5_mean 16 = .ok (.getfield 28, 3) := by decide +kernel
theorem dX5_mean_19 : decode cX5_mean 19 = .ok (.iload_n 1, 1) := by decide +kernel
theorem dX5_mean_20 : decode cX5_mean 20 = .ok (.iaload, 1) := by decide +kernel
theorem dX5_mean_21 : decode cX5_mean 21 = .ok (.ifCond .ne 7, 3) := by decide +kernel
theorem dX5_mean_24 : decode cX5_mean 24 = .ok (.iconst 2, 1) := by decide +kernel
theorem dX5_mean_25 : decode cX5_mean 25 = .ok (.goto 4, 3) := by decide +kernel
theorem dX5_mean_28 : decode cX5_mean 28 = .ok (.iconst 0, 1) := by decide +kernel
theorem dX5_mean_29 : decode cX5_mean 29 = .ok (.putfield 48, 3) := by decide +kernel
theorem dX5_mean_32 : decode cX5_mean 32 = .ok (.aload_n 0, 1) := by decide +kernel
theorem dX5_mean_33 : decode cX5_mean 33 = .ok (.getfield 48, 3) := by decide +kernel
theorem dX5_mean_36 : decode cX5_mean 36 = .ok (.ifCond .le 5, 3) := by decide +kernel
theorem dX5_mean_39 : decode cX5_mean 39 = .ok (.dconst 0, 1) := by decide +kernel
theorem dX5_mean_40 : decode cX5_mean 40 = .ok (.dreturn, 1) := by decide +kernel
theorem dX5_mean_41 : decode cX5_mean 41 = .ok (.dconst 0, 1) := by decide +kernel
theorem dX5_mean_42 : decode cX5_mean 42 = .ok (.dstore_n 2, 1) := by decide +kernel
theorem dX5_mean_43 : decode cX5_mean 43 = .ok (.iconst 0, 1) := by decide +kernel
theorem dX5_mean_44 : decode cX5_mean 44 = .ok (.istore 4, 2) := by decide +kernel
theorem dX5_mean_46 : decode cX5_mean 46 = .ok (.iload 4, 2) := by decide +kernel
theorem dX5_mean_48 : decode cX5_mean 48 = .ok (.aload_n 0, 1) := by decide +kernel
theorem dX5_mean_49 : decode cX5_mean 49 = .ok (.getfield 28, 3) := by decide +kernel
theorem dX5_mean_52 : decode cX5_mean 52 = .ok (.iload_n 1, 1) := by decide +kernel
theorem dX5_mean_53 : decode cX5_mean 53 = .ok (.iaload, 1) := by decide +kernel
theorem dX5_mean_54 : decode cX5_mean 54 = .ok (.if_icmp .ge 25, 3) := by decide +kernel
theorem dX5_mean_57 : decode cX5_mean 57 = .ok (.dload_n 2, 1) := by decide +kernel
theorem dX5_mean_58 : decode cX5_mean 58 = .ok (.aload_n 0, 1) := by decide +kernel
theorem dX5_mean_59 : decode cX5_mean 59 = .ok (.getfield 31, 3) := by decide +kernel
theorem dX5_mean_62 : decode cX5_mean 62 = .ok (.sipush 200, 3) := by decide +kernel
theorem dX5_mean_65 : decode cX5_mean 65 = .ok (.iload_n 1, 1) := by decide +kernel
theorem dX5_mean_66 : decode cX5_mean 66 = .ok (.imul, 1) := by decide +kernel
theorem dX5_mean_67 : decode cX5_mean 67 = .ok (.iload 4, 2) := by decide +kernel
theorem dX5_mean_69 : decode cX5_mean 69 = .ok (.iadd, 1) := by decide +kernel
theorem dX5_mean_70 : decode cX5_mean 70 = .ok (.daload, 1) := by decide +kernel
theorem dX5_mean_71 : decode cX5_mean 71 = .ok (.dadd, 1) := by decide +kernel
theorem dX5_mean_72 : decode cX5_mean 72 = .ok (.dstore_n 2, 1) := by decide +kernel
theorem dX5_mean_73 : decode cX5_mean 73 = .ok (.iinc 4 1, 3) := by decide +kernel
theorem dX5_mean_76 : decode cX5_mean 76 = .ok (.goto (-30), 3) := by decide +kernel
theorem dX5_mean_79 : decode cX5_mean 79 = .ok (.dload_n 2, 1) := by decide +kernel
theorem dX5_mean_80 : decode cX5_mean 80 = .ok (.aload_n 0, 1) := by decide +kernel
theorem dX5_mean_81 : decode cX5_mean 81 = .ok (.getfield 28, 3) := by decide +kernel
theorem dX5_mean_84 : decode cX5_mean 84 = .ok (.iload_n 1, 1) := by decide +kernel
theorem dX5_mean_85 : decode cX5_mean 85 = .ok (.iaload, 1) := by decide +kernel
theorem dX5_mean_86 : decode cX5_mean 86 = .ok (.i2d, 1) := by decide +kernel
theorem dX5_mean_87 : decode cX5_mean 87 = .ok (.ddiv, 1) := by decide +kernel
theorem dX5_mean_88 : decode cX5_mean 88 = .ok (.dreturn, 1) := by decide +kernel
set_option maxRecDepth 20000 in
theorem ggX5_ranked_X5_in : GoodIn wsX5_ranked wsX5_in := goodIn_r _ [8] (by decide +kernel) (by decide +kernel)
set_option maxRecDepth 20000 in
theorem gX5_ranked_X5_in : GoodIn wsX5_ranked (va_wsS RX5 51 yX5_in wsX5_in) := goodIn_app (goodIn_of _ (by decide +kernel)) ggX5_ranked_X5_in
theorem dX5_ranked_0 : decode cX5_ranked 0 = .ok (.aload_n 0, 1) := by decide +kernel
theorem dX5_ranked_1 : decode cX5_ranked 1 = .ok (.iload_n 1, 1) := by decide +kernel
theorem dX5_ranked_2 : decode cX5_ranked 2 = .ok (.iconst 0, 1) := by decide +kernel
theorem dX5_ranked_3 : decode cX5_ranked 3 = .ok (.bipush 7, 2) := by decide +kernel
theorem dX5_ranked_5 : decode cX5_ranked 5 = .ok (.invokestatic 51, 3) := by decide +kernel
theorem dX5_ranked_8 : decode cX5_ranked 8 = .ok (.ifCond .eq 7, 3) := by decide +kernel
theorem dX5_ranked_11 : decode cX5_ranked 11 = .ok (.iconst 0, 1) := by decide +kernel
theorem dX5_ranked_12 : decode cX5_ranked 12 = .ok (.goto 4, 3) := by decide +kernel
theorem dX5_ranked_15 : decode cX5_ranked 15 = .ok (.iconst 1, 1) := by decide +kernel
theorem dX5_ranked_16 : decode cX5_ranked 16 = .ok (.putfield 48, 3) := by decide +kernel
theorem dX5_ranked_19 : decode cX5_ranked 19 = .ok (.aload_n 0, 1) := by decide +kernel
theorem dX5_ranked_20 : decode cX5_ranked 20 = .ok (.getfield 48, 3) := by decide +kernel
theorem dX5_ranked_23 : decode cX5_ranked 23 = .ok (.ifCond .ne 28, 3) := by decide +kernel
theorem dX5_ranked_26 : decode cX5_ranked 26 = .ok (.aload_n 0, 1) := by decide +kernel
theorem dX5_ranked_27 : decode cX5_ranked 27 = .ok (.iload_n 2, 1) := by decide +kernel
theorem dX5_ranked_28 : decode cX5_ranked 28 = .ok (.iconst 0, 1) := by decide +kernel
theorem dX5_ranked_29 : decode cX5_ranked 29 = .ok (.aload_n 0, 1) := by decide +kernel
theorem dX5_ranked_30 : decode cX5_ranked 30 = .ok (.getfield 28, 3) := by decide +kernel
theorem dX5_ranked_33 : decode cX5_ranked 33 = .ok (.iload_n 1, 1) := by decide +kernel
theorem dX5_ranked_34 : decode cX5_ranked 34 = .ok (.iaload, 1) := by decide +kernel
theorem dX5_ranked_35 : decode cX5_ranked 35 = .ok (.iconst 1, 1) := by decide +kernel
theorem dX5_ranked_36 : decode cX5_ranked 36 = .ok (.isub, 1) := by decide +kernel
theorem dX5_ranked_37 : decode cX5_ranked 37 = .ok (.invokestatic 51, 3) := by decide +kernel
theorem dX5_ranked_40 : decode cX5_ranked 40 = .ok (.ifCond .eq 7, 3) := by decide +kernel
theorem dX5_ranked_43 : decode cX5_ranked 43 = .ok (.iconst 0, 1) := by decide +kernel
theorem dX5_ranked_44 : decode cX5_ranked 44 = .ok (.goto 4, 3) := by decide +kernel
theorem dX5_ranked_47 : decode cX5_ranked 47 = .ok (.iconst 1, 1) := by decide +kernel
theorem dX5_ranked_48 : decode cX5_ranked 48 = .ok (.putfield 48, 3) := by decide +kernel
theorem dX5_ranked_51 : decode cX5_ranked 51 = .ok (.aload_n 0, 1) := by decide +kernel
theorem dX5_ranked_52 : decode cX5_ranked 52 = .ok (.getfield 48, 3) := by decide +kernel
theorem dX5_ranked_55 : decode cX5_ranked 55 = .ok (.ifCond .le 5, 3) := by decide +kernel
theorem dX5_ranked_58 : decode cX5_ranked 58 = .ok (.dconst 0, 1) := by decide +kernel
theorem dX5_ranked_59 : decode cX5_ranked 59 = .ok (.dreturn, 1) := by decide +kernel
theorem dX5_ranked_60 : decode cX5_ranked 60 = .ok (.iconst 0, 1) := by decide +kernel
theorem dX5_ranked_61 : decode cX5_ranked 61 = .ok (.istore_n 3, 1) := by decide +kernel
theorem dX5_ranked_62 : decode cX5_ranked 62 = .ok (.iload_n 3, 1) := by decide +kernel
theorem dX5_ranked_63 : decode cX5_ranked 63 = .ok (.aload_n 0, 1) := by decide +kernel
theorem dX5_ranked_64 : decode cX5_ranked 64 = .ok (.getfield 28, 3) := by decide +kernel
theorem dX5_ranked_67 : decode cX5_ranked 67 = .ok (.iload_n 1, 1) := by decide +kernel
theorem dX5_ranked_68 : decode cX5_ranked 68 = .ok (.iaload, 1) := by decide +kernel
theorem dX5_ranked_69 : decode cX5_ranked 69 = .ok (.if_icmp .ge 77, 3) := by decide +kernel
theorem dX5_ranked_72 : decode cX5_ranked 72 = .ok (.aload_n 0, 1) := by decide +kernel
theorem dX5_ranked_73 : decode cX5_ranked 73 = .ok (.getfield 31, 3) := by decide +kernel
theorem dX5_ranked_76 : decode cX5_ranked 76 = .ok (.sipush 200, 3) := by decide +kernel
