theorem dX5_isPlace_14 : decode cX5_isPlace 14 = .ok (.iload_n 2, 1) := by decide +kernel
theorem dX5_isPlace_15 : decode cX5_isPlace 15 = .ok (.iconst 0, 1) := by decide +kernel
theorem dX5_isPlace_16 : decode cX5_isPlace 16 = .ok (.aload_n 0, 1) := by decide +kernel
theorem dX5_isPlace_17 : decode cX5_isPlace 17 = .ok (.getfield 42, 3) := by decide +kernel
theorem dX5_isPlace_20 : decode cX5_isPlace 20 = .ok (.iconst 1, 1) := by decide +kernel
theorem dX5_isPlace_21 : decode cX5_isPlace 21 = .ok (.isub, 1) := by decide +kernel
theorem dX5_isPlace_22 : decode cX5_isPlace 22 = .ok (.invokestatic 51, 3) := by decide +kernel
theorem dX5_isPlace_25 : decode cX5_isPlace 25 = .ok (.ifCond .eq 7, 3) := by decide +kernel
theorem dX5_isPlace_28 : decode cX5_isPlace 28 = .ok (.iconst 1, 1) := by decide +kernel
theorem dX5_isPlace_29 : decode cX5_isPlace 29 = .ok (.goto 4, 3) := by decide +kernel
theorem dX5_isPlace_32 : decode cX5_isPlace 32 = .ok (.iconst 0, 1) := by decide +kernel
theorem dX5_isPlace_33 : decode cX5_isPlace 33 = .ok (.ireturn, 1) := by decide +kernel
theorem dX5_places_0 : decode cX5_places 0 = .ok (.aload_n 0, 1) := by decide +kernel
theorem dX5_places_1 : decode cX5_places 1 = .ok (.getfield 38, 3) := by decide +kernel
theorem dX5_places_4 : decode cX5_places 4 = .ok (.aload_n 0, 1) := by decide +kernel
theorem dX5_places_5 : decode cX5_places 5 = .ok (.getfield 42, 3) := by decide +kernel
theorem dX5_places_8 : decode cX5_places 8 = .ok (.imul, 1) := by decide +kernel
theorem dX5_places_9 : decode cX5_places 9 = .ok (.ireturn, 1) := by decide +kernel
set_option maxRecDepth 20000 in
theorem ggX5_put_X5_isPlace : GoodIn wsX5_put wsX5_isPlace := goodIn_r _ [10, 3, 11, 12, 13, 9, 14, 15, 16, 17, 18, 19, 20, 21, 22, 23, 24, 25, 26, 27, 28, 29] (by decide +kernel) (by decide +kernel)
set_option maxRecDepth 20000 in
theorem gX5_put_X5_isPlace : GoodIn wsX5_put (wsV RX5 55 RX5 yX5_isPlace wsX5_isPlace) := goodIn_app (goodIn_of _ (by decide +kernel)) ggX5_put_X5_isPlace
set_option maxRecDepth 20000 in
theorem ggX5_put_X5_in : GoodIn wsX5_put wsX5_in := goodIn_r _ [14] (by decide +kernel) (by decide +kernel)
set_option maxRecDepth 20000 in
theorem gX5_put_X5_in : GoodIn wsX5_put (va_wsS RX5 51 yX5_in wsX5_in) := goodIn_app (goodIn_of _ (by decide +kernel)) ggX5_put_X5_in
theorem dX5_put_0 : decode cX5_put 0 = .ok (.aload_n 0, 1) := by decide +kernel
theorem dX5_put_1 : decode cX5_put 1 = .ok (.aload_n 0, 1) := by decide +kernel
theorem dX5_put_2 : decode cX5_put 2 = .ok (.iload_n 2, 1) := by decide +kernel
theorem dX5_put_3 : decode cX5_put 3 = .ok (.iload_n 3, 1) := by decide +kernel
theorem dX5_put_4 : decode cX5_put 4 = .ok (.invokevirtual 55, 3) := by decide +kernel
theorem dX5_put_7 : decode cX5_put 7 = .ok (.ifCond .eq 18, 3) := by decide +kernel
theorem dX5_put_10 : decode cX5_put 10 = .ok (.iload 4, 2) := by decide +kernel
theorem dX5_put_12 : decode cX5_put 12 = .ok (.iconst 0, 1) := by decide +kernel
theorem dX5_put_13 : decode cX5_put 13 = .ok (.aload_n 0, 1) := by decide +kernel
theorem dX5_put_14 : decode cX5_put 14 = .ok (.getfield 45, 3) := by decide +kernel
theorem dX5_put_17 : decode cX5_put 17 = .ok (.iconst 1, 1) := by decide +kernel
theorem dX5_put_18 : decode cX5_put 18 = .ok (.isub, 1) := by decide +kernel
theorem dX5_put_19 : decode cX5_put 19 = .ok (.invokestatic 51, 3) := by decide +kernel
theorem dX5_put_22 : decode cX5_put 22 = .ok (.ifCond .ne 7, 3) := by decide +kernel
theorem dX5_put_25 : decode cX5_put 25 = .ok (.iconst 1, 1) := by decide +kernel
theorem dX5_put_26 : decode cX5_put 26 = .ok (.goto 20, 3) := by decide +kernel
theorem dX5_put_29 : decode cX5_put 29 = .ok (.iload 5, 2) := by decide +kernel
theorem dX5_put_31 : decode cX5_put 31 = .ok (.iconst 0, 1) := by decide +kernel
theorem dX5_put_32 : decode cX5_put 32 = .ok (.sipush 255, 3) := by decide +kernel
theorem dX5_put_35 : decode cX5_put 35 = .ok (.invokestatic 51, 3) := by decide +kernel
theorem dX5_put_38 : decode cX5_put 38 = .ok (.ifCond .ne 7, 3) := by decide +kernel
theorem dX5_put_41 : decode cX5_put 41 = .ok (.iconst 2, 1) := by decide +kernel
theorem dX5_put_42 : decode cX5_put 42 = .ok (.goto 4, 3) := by decide +kernel
theorem dX5_put_45 : decode cX5_put 45 = .ok (.iconst 0, 1) := by decide +kernel
theorem dX5_put_46 : decode cX5_put 46 = .ok (.putfield 48, 3) := by decide +kernel
theorem dX5_put_49 : decode cX5_put 49 = .ok (.aload_n 0, 1) := by decide +kernel
theorem dX5_put_50 : decode cX5_put 50 = .ok (.getfield 48, 3) := by decide +kernel
theorem dX5_put_53 : decode cX5_put 53 = .ok (.ifCond .le 5, 3) := by decide +kernel
theorem dX5_put_56 : decode cX5_put 56 = .ok (.iconst 0, 1) := by decide +kernel
theorem dX5_put_57 : decode cX5_put 57 = .ok (.ireturn, 1) := by decide +kernel
theorem dX5_put_58 : decode cX5_put 58 = .ok (.iconst 3, 1) := by decide +kernel
theorem dX5_put_59 : decode cX5_put 59 = .ok (.aload_n 0, 1) := by decide +kernel
theorem dX5_put_60 : decode cX5_put 60 = .ok (.getfield 38, 3) := by decide +kernel
theorem dX5_put_63 : decode cX5_put 63 = .ok (.iload_n 3, 1) := by decide +kernel
theorem dX5_put_64 : decode cX5_put 64 = .ok (.imul, 1) := by decide +kernel
theorem dX5_put_65 : decode cX5_put 65 = .ok (.iload_n 2, 1) := by decide +kernel
theorem dX5_put_66 : decode cX5_put 66 = .ok (.iadd, 1) := by decide +kernel
theorem dX5_put_67 : decode cX5_put 67 = .ok (.imul, 1) := by decide +kernel
theorem dX5_put_68 : decode cX5_put 68 = .ok (.iload 4, 2) := by decide +kernel
theorem dX5_put_70 : decode cX5_put 70 = .ok (.iadd, 1) := by decide +kernel
theorem dX5_put_71 : decode cX5_put 71 = .ok (.istore 6, 2) := by decide +kernel
theorem dX5_put_73 : decode cX5_put 73 = .ok (.iload_n 1, 1) := by decide +kernel
theorem dX5_put_74 : decode cX5_put 74 = .ok (.ifCond .eq 13, 3) := by decide +kernel
theorem dX5_put_77 : decode cX5_put 77 = .ok (.aload_n 0, 1) := by decide +kernel
theorem dX5_put_78 : decode cX5_put 78 = .ok (.getfield 7, 3) := by decide +kernel
theorem dX5_put_81 : decode cX5_put 81 = .ok (.iload 6, 2) := by decide +kernel
theorem dX5_put_83 : decode cX5_put 83 = .ok (.iaload, 1) := by decide +kernel
theorem dX5_put_84 : decode cX5_put 84 = .ok (.goto 10, 3) := by decide +kernel
theorem dX5_put_87 : decode cX5_put 87 = .ok (.aload_n 0, 1) := by decide +kernel
theorem dX5_put_88 : decode cX5_put 88 = .ok (.getfield 13, 3) := by decide +kernel
theorem dX5_put_91 : decode cX5_put 91 = .ok (.iload 6, 2) := by decide +kernel
theorem dX5_put_93 : decode cX5_put 93 = .ok (.iaload, 1) := by decide +kernel
theorem dX5_put_94 : decode cX5_put 94 = .ok (.istore 7, 2) := by decide +kernel
theorem dX5_put_96 : decode cX5_put 96 = .ok (.iload_n 1, 1) := by decide +kernel
theorem dX5_put_97 : decode cX5_put 97 = .ok (.ifCond .eq 15, 3) := by decide +kernel
theorem dX5_put_100 : decode cX5_put 100 = .ok (.aload_n 0, 1) := by decide +kernel
theorem dX5_put_101 : decode cX5_put 101 = .ok (.getfield 7, 3) := by decide +kernel
theorem dX5_put_104 : decode cX5_put 104 = .ok (.iload 6, 2) := by decide +kernel
theorem dX5_put_106 : decode cX5_put 106 = .ok (.iload 5, 2) := by decide +kernel
theorem dX5_put_108 : decode cX5_put 108 = .ok (.iastore, 1) := by decide +kernel
theorem dX5_put_109 : decode cX5_put 109 = .ok (.goto 12, 3) := by decide +kernel
theorem dX5_put_112 : decode cX5_put 112 = .ok (.aload_n 0, 1) := by decide +kernel
theorem dX5_put_113 : decode cX5_put 113 = .ok (.getfield 13, 3) := by decide +kernel
theorem dX5_put_116 : decode cX5_put 116 = .ok (.iload 6, 2) := by decide +kernel
theorem dX5_put_118 : decode cX5_put 118 = .ok (.iload 5, 2) := by decide +kernel
theorem dX5_put_120 : decode cX5_put 120 = .ok (.iastore, 1) := by decide +kernel
theorem dX5_put_121 : decode cX5_put 121 = .ok (.iload 7, 2) := by decide +kernel
theorem dX5_put_123 : decode cX5_put 123 = .ok (.ireturn, 1) := by decide +kernel
set_option maxRecDepth 20000 in
theorem ggX5_paint_X5_places : GoodIn wsX5_paint wsX5_places := goodIn_r _ [9, 10, 11, 12, 13, 14, 15, 16, 17, 18, 19, 20, 21, 22, 23, 24, 25, 26] (by decide +kernel) (by decide +kernel)
set_option maxRecDepth 20000 in
theorem gX5_paint_X5_places : GoodIn wsX5_paint (wsV RX5 59 RX5 yX5_places wsX5_places) := goodIn_app (goodIn_of _ (by decide +kernel)) ggX5_paint_X5_places
theorem dX5_paint_0 : decode cX5_paint 0 = .ok (.aload_n 0, 1) := by decide +kernel
theorem dX5_paint_1 : decode cX5_paint 1 = .ok (.iconst 0, 1) := by decide +kernel
theorem dX5_paint_2 : decode cX5_paint 2 = .ok (.putfield 48, 3) := by decide +kernel
theorem dX5_paint_5 : decode cX5_paint 5 = .ok (.iconst 0, 1) := by decide +kernel
theorem dX5_paint_6 : decode cX5_paint 6 = .ok (.istore 4, 2) := by decide +kernel
theorem dX5_paint_8 : decode cX5_paint 8 = .ok (.iload_n 2, 1) := by decide +kernel
theorem dX5_paint_9 : decode cX5_paint 9 = .ok (.istore 5, 2) := by decide +kernel
theorem dX5_paint_11 : decode cX5_paint 11 = .ok (.iconst 0, 1) := by decide +kernel
theorem dX5_paint_12 : decode cX5_paint 12 = .ok (.istore 6, 2) := by decide +kernel
theorem dX5_paint_14 : decode cX5_paint 14 = .ok (.iload 6, 2) := by decide +kernel
theorem dX5_paint_16 : decode cX5_paint 16 = .ok (.aload_n 0, 1) := by decide +kernel
theorem dX5_paint_17 : decode cX5_paint 17 = .ok (.invokevirtual 59, 3) := by decide +kernel
theorem dX5_paint_20 : decode cX5_paint 20 = .ok (.if_icmp .ge 120, 3) := by decide +kernel
theorem dX5_paint_23 : decode cX5_paint 23 = .ok (.iconst 0, 1) := by decide +kernel
theorem dX5_paint_24 : decode cX5_paint 24 = .ok (.istore 7, 2) := by decide +kernel
theorem dX5_paint_26 : decode cX5_paint 26 = .ok (.iload 7, 2) := by decide +kernel
theorem dX5_paint_28 : decode cX5_paint 28 = .ok (.aload_n 0, 1) := by decide +kernel
theorem dX5_paint_29 : decode cX5_paint 29 = .ok (.getfield 45, 3) := by decide +kernel
theorem dX5_paint_32 : decode cX5_paint 32 = .ok (.if_icmp .ge 102, 3) := by decide +kernel
theorem dX5_paint_35 : decode cX5_paint 35 = .ok (.iconst 3, 1) := by decide +kernel
theorem dX5_paint_36 : decode cX5_paint 36 = .ok (.iload 6, 2) := by decide +kernel
theorem dX5_paint_38 : decode cX5_paint 38 = .ok (.imul, 1) := by decide +kernel
theorem dX5_paint_39 : decode cX5_paint 39 = .ok (.iload 7, 2) := by decide +kernel
theorem dX5_paint_41 : decode cX5_paint 41 = .ok (.iadd, 1) := by decide +kernel
theorem dX5_paint_42 : decode cX5_paint 42 = .ok (.istore 8, 2) := by decide +kernel
theorem dX5_paint_44 : decode cX5_paint 44 = .ok (.iload_n 1, 1) := by decide +kernel
theorem dX5_paint_45 : decode cX5_paint 45 = .ok (.ifCond .eq 13, 3) := by decide +kernel
theorem dX5_paint_48 : decode cX5_paint 48 = .ok (.aload_n 0, 1) := by decide +kernel
theorem dX5_paint_49 : decode cX5_paint 49 = .ok (.getfield 7, 3) := by decide +kernel
theorem dX5_paint_52 : decode cX5_paint 52 = .ok (.iload 8, 2) := by decide +kernel
theorem dX5_paint_54 : decode cX5_paint 54 = .ok (.iaload, 1) := by decide +kernel
theorem dX5_paint_55 : decode cX5_paint 55 = .ok (.goto 10, 3) := by decide +kernel
theorem dX5_paint_58 : decode cX5_paint 58 = .ok (.aload_n 0, 1) := by decide +kernel
theorem dX5_paint_59 : decode cX5_paint 59 = .ok (.getfield 13, 3) := by decide +kernel
theorem dX5_paint_62 : decode cX5_paint 62 = .ok (.iload 8, 2) := by decide +kernel
theorem dX5_paint_64 : decode cX5_paint 64 = .ok (.iaload, 1) := by decide +kernel
theorem dX5_paint_65 : decode cX5_paint 65 = .ok (.istore 9, 2) := by decide +kernel
theorem dX5_paint_67 : decode cX5_paint 67 = .ok (.iload 9, 2) := by decide +kernel
theorem dX5_paint_69 : decode cX5_paint 69 = .ok (.iload 5, 2) := by decide +kernel
theorem dX5_paint_71 : decode cX5_paint 71 = .ok (.sipush 255, 3) := by decide +kernel
theorem dX5_paint_74 : decode cX5_paint 74 = .ok (.iand, 1) := by decide +kernel
theorem dX5_paint_75 : decode cX5_paint 75 = .ok (.if_icmp .eq 10, 3) := by decide +kernel
theorem dX5_paint_78 : decode cX5_paint 78 = .ok (.iload 4, 2) := by decide +kernel
theorem dX5_paint_80 : decode cX5_paint 80 = .ok (.iconst 1, 1) := by decide +kernel
theorem dX5_paint_81 : decode cX5_paint 81 = .ok (.iadd, 1) := by decide +kernel
theorem dX5_paint_82 : decode cX5_paint 82 = .ok (.goto 5, 3) := by decide +kernel
theorem dX5_paint_85 : decode cX5_paint 85 = .ok (.iload 4, 2) := by decide +kernel
theorem dX5_paint_87 : decode cX5_paint 87 = .ok (.istore 4, 2) := by decide +kernel
theorem dX5_paint_89 : decode cX5_paint 89 = .ok (.iload_n 1, 1) := by decide +kernel
theorem dX5_paint_90 : decode cX5_paint 90 = .ok (.ifCond .eq 19, 3) := by decide +kernel
theorem dX5_paint_93 : decode cX5_paint 93 = .ok (.aload_n 0, 1) := by decide +kernel
theorem dX5_paint_94 : decode cX5_paint 94 = .ok (.getfield 7, 3) := by decide +kernel
theorem dX5_paint_97 : decode cX5_paint 97 = .ok (.iload 8, 2) := by decide +kernel
theorem dX5_paint_99 : decode cX5_paint 99 = .ok (.iload 5, 2) := by decide +kernel
theorem dX5_paint_101 : decode cX5_paint 101 = .ok (.sipush 255, 3) := by decide +kernel
theorem dX5_paint_104 : decode cX5_paint 104 = .ok (.iand, 1) := by decide +kernel
theorem dX5_paint_105 : decode cX5_paint 105 = .ok (.iastore, 1) := by decide +kernel
theorem dX5_paint_106 : decode cX5_paint 106 = .ok (.goto 16, 3) := by decide +kernel
theorem dX5_paint_109 : decode cX5_paint 109 = .ok (.aload_n 0, 1) := by decide +kernel
theorem dX5_paint_110 : decode cX5_paint 110 = .ok (.getfield 13, 3) := by decide +kernel
theorem dX5_paint_113 : decode cX5_paint 113 = .ok (.iload 8, 2) := by decide +kernel
theorem dX5_paint_115 : decode cX5_paint 115 = .ok (.iload 5, 2) := by decide +kernel
theorem dX5_paint_117 : decode cX5_paint 117 = .ok (.sipush 255, 3) := by decide +kernel
theorem dX5_paint_120 : decode cX5_paint 120 = .ok (.iand, 1) := by decide +kernel
theorem dX5_paint_121 : decode cX5_paint 121 = .ok (.iastore, 1) := by decide +kernel
theorem dX5_paint_122 : decode cX5_paint 122 = .ok (.iload 5, 2) := by decide +kernel
theorem dX5_paint_124 : decode cX5_paint 124 = .ok (.iload_n 3, 1) := by decide +kernel
theorem dX5_paint_125 : decode cX5_paint 125 = .ok (.iadd, 1) := by decide +kernel
theorem dX5_paint_126 : decode cX5_paint 126 = .ok (.istore 5, 2) := by decide +kernel
theorem dX5_paint_128 : decode cX5_paint 128 = .ok (.iinc 7 1, 3) := by decide +kernel
theorem dX5_paint_131 : decode cX5_paint 131 = .ok (.goto (-105), 3) := by decide +kernel
theorem dX5_paint_134 : decode cX5_paint 134 = .ok (.iinc 6 1, 3) := by decide +kernel
theorem dX5_paint_137 : decode cX5_paint 137 = .ok (.goto (-123), 3) := by decide +kernel
theorem dX5_paint_140 : decode cX5_paint 140 = .ok (.iload 4, 2) := by decide +kernel
theorem dX5_paint_142 : decode cX5_paint 142 = .ok (.ireturn, 1) := by decide +kernel
set_option maxRecDepth 20000 in
theorem ggX5_copy_X5_places : GoodIn wsX5_copy wsX5_places := goodIn_r _ [8, 9, 10, 11, 12, 13, 14, 15, 16, 17, 18, 19, 20, 21, 22, 23, 24, 25] (by decide +kernel) (by decide +kernel)
set_option maxRecDepth 20000 in
theorem gX5_copy_X5_places : GoodIn wsX5_copy (wsV RX5 59 RX5 yX5_places wsX5_places) := goodIn_app (goodIn_of _ (by decide +kernel)) ggX5_copy_X5_places
theorem dX5_copy_0 : decode cX5_copy 0 = .ok (.aload_n 0, 1) := by decide +kernel
theorem dX5_copy_1 : decode cX5_copy 1 = .ok (.iconst 0, 1) := by decide +kernel
theorem dX5_copy_2 : decode cX5_copy 2 = .ok (.putfield 48, 3) := by decide +kernel
theorem dX5_copy_5 : decode cX5_copy 5 = .ok (.iconst 0, 1) := by decide +kernel
theorem dX5_copy_6 : decode cX5_copy 6 = .ok (.istore_n 1, 1) := by decide +kernel
theorem dX5_copy_7 : decode cX5_copy 7 = .ok (.iconst 0, 1) := by decide +kernel
theorem dX5_copy_8 : decode cX5_copy 8 = .ok (.istore_n 2, 1) := by decide +kernel
theorem dX5_copy_9 : decode cX5_copy 9 = .ok (.iload_n 2, 1) := by decide +kernel
theorem dX5_copy_10 : decode cX5_copy 10 = .ok (.iconst 3, 1) := by decide +kernel
theorem dX5_copy_11 : decode cX5_copy 11 = .ok (.aload_n 0, 1) := by decide +kernel
theorem dX5_copy_12 : decode cX5_copy 12 = .ok (.invokevirtual 59, 3) := by decide +kernel
theorem dX5_copy_15 : decode cX5_copy 15 = .ok (.imul, 1) := by decide +kernel
theorem dX5_copy_16 : decode cX5_copy 16 = .ok (.if_icmp .ge 44, 3) := by decide +kernel
theorem dX5_copy_19 : decode cX5_copy 19 = .ok (.aload_n 0, 1) := by decide +kernel
theorem dX5_copy_20 : decode cX5_copy 20 = .ok (.getfield 7, 3) := by decide +kernel
theorem dX5_copy_23 : decode cX5_copy 23 = .ok (.iload_n 2, 1) := by decide +kernel
theorem dX5_copy_24 : decode cX5_copy 24 = .ok (.iaload, 1) := by decide +kernel
theorem dX5_copy_25 : decode cX5_copy 25 = .ok (.aload_n 0, 1) := by decide +kernel
theorem dX5_copy_26 : decode cX5_copy 26 = .ok (.getfield 13, 3) := by decide +kernel
theorem dX5_copy_29 : decode cX5_copy 29 = .ok (.iload_n 2, 1) := by decide +kernel
theorem dX5_copy_30 : decode cX5_copy 30 = .ok (.iaload, 1) := by decide +kernel
theorem dX5_copy_31 : decode cX5_copy 31 = .ok (.if_icmp .eq 9, 3) := by decide +kernel
theorem dX5_copy_34 : decode cX5_copy 34 = .ok (.iload_n 1, 1) := by decide +kernel
theorem dX5_copy_35 : decode cX5_copy 35 = .ok (.iconst 1, 1) := by decide +kernel
theorem dX5_copy_36 : decode cX5_copy 36 = .ok (.iadd, 1) := by decide +kernel
theorem dX5_copy_37 : decode cX5_copy 37 = .ok (.goto 4, 3) := by decide +kernel
theorem dX5_copy_40 : decode cX5_copy 40 = .ok (.iload_n 1, 1) := by decide +kernel
theorem dX5_copy_41 : decode cX5_copy 41 = .ok (.istore_n 1, 1) := by decide +kernel
theorem dX5_copy_42 : decode cX5_copy 42 = .ok (.aload_n 0, 1) := by decide +kernel
theorem dX5_copy_43 : decode cX5_copy 43 = .ok (.getfield 13, 3) := by decide +kernel
theorem dX5_copy_46 : decode cX5_copy 46 = .ok (.iload_n 2, 1) := by decide +kernel
theorem dX5_copy_47 : decode cX5_copy 47 = .ok (.aload_n 0, 1) := by decide +kernel
theorem dX5_copy_48 : decode cX5_copy 48 = .ok (.getfield 7, 3) := by decide +kernel
theorem dX5_copy_51 : decode cX5_copy 51 = .ok (.iload_n 2, 1) := by decide +kernel
theorem dX5_copy_52 : decode cX5_copy 52 = .ok (.iaload, 1) := by decide +kernel
theorem dX5_copy_53 : decode cX5_copy 53 = .ok (.iastore, 1) := by decide +kernel
theorem dX5_copy_54 : decode cX5_copy 54 = .ok (.iinc 2 1, 3) := by decide +kernel
theorem dX5_copy_57 : decode cX5_copy 57 = .ok (.goto (-48), 3) := by decide +kernel
theorem dX5_copy_60 : decode cX5_copy 60 = .ok (.iload_n 1, 1) := by decide +kernel
theorem dX5_copy_61 : decode cX5_copy 61 = .ok (.ireturn, 1) := by decide +kernel
set_option maxRecDepth 20000 in
theorem ggX5_squared_X5_in : GoodIn wsX5_squared wsX5_in := goodIn_r _ [8] (by decide +kernel) (by decide +kernel)
set_option maxRecDepth 20000 in
theorem gX5_squared_X5_in : GoodIn wsX5_squared (va_wsS RX5 51 yX5_in wsX5_in) := goodIn_app (goodIn_of _ (by decide +kernel)) ggX5_squared_X5_in
set_option maxRecDepth 20000 in
theorem ggX5_squared_X5_places : GoodIn wsX5_squared wsX5_places := goodIn_r _ [12, 13, 14, 15, 16, 17, 18, 19, 20, 21, 22, 23, 24, 25, 26, 27, 28, 29] (by decide +kernel) (by decide +kernel)
set_option maxRecDepth 20000 in
theorem gX5_squared_X5_places : GoodIn wsX5_squared (wsV RX5 59 RX5 yX5_places wsX5_places) := goodIn_app (goodIn_of _ (by decide +kernel)) ggX5_squared_X5_places
theorem dX5_squared_0 : decode cX5_squared 0 = .ok (.aload_n 0, 1) := by decide +kernel
theorem dX5_squared_1 : decode cX5_squared 1 = .ok (.iload_n 1, 1) := by decide +kernel
theorem dX5_squared_2 : decode cX5_squared 2 = .ok (.iconst 0, 1) := by decide +kernel
theorem dX5_squared_3 : decode cX5_squared 3 = .ok (.aload_n 0, 1) := by decide +kernel
theorem dX5_squared_4 : decode cX5_squared 4 = .ok (.getfield 45, 3) := by decide +kernel
theorem dX5_squared_7 : decode cX5_squared 7 = .ok (.iconst 1, 1) := by decide +kernel
theorem dX5_squared_8 : decode cX5_squared 8 = .ok (.isub, 1) := by decide +kernel
theorem dX5_squared_9 : decode cX5_squared 9 = .ok (.invokestatic 51, 3) := by decide +kernel
theorem dX5_squared_12 : decode cX5_squared 12 = .ok (.ifCond .eq 7, 3) := by decide +kernel
theorem dX5_squared_15 : decode cX5_squared 15 = .ok (.iconst 0, 1) := by decide +kernel
theorem dX5_squared_16 : decode cX5_squared 16 = .ok (.goto 4, 3) := by decide +kernel
theorem dX5_squared_19 : decode cX5_squared 19 = .ok (.iconst 1, 1) := by decide +kernel
theorem dX5_squared_20 : decode cX5_squared 20 = .ok (.putfield 48, 3) := by decide +kernel
theorem dX5_squared_23 : decode cX5_squared 23 = .ok (.lconst 0, 1) := by decide +kernel
theorem dX5_squared_24 : decode cX5_squared 24 = .ok (.lstore_n 2, 1) := by decide +kernel
theorem dX5_squared_25 : decode cX5_squared 25 = .ok (.iconst 0, 1) := by decide +kernel
theorem dX5_squared_26 : decode cX5_squared 26 = .ok (.istore 4, 2) := by decide +kernel
theorem dX5_squared_28 : decode cX5_squared 28 = .ok (.iload 4, 2) := by decide +kernel
theorem dX5_squared_30 : decode cX5_squared 30 = .ok (.aload_n 0, 1) := by decide +kernel
theorem dX5_squared_31 : decode cX5_squared 31 = .ok (.invokevirtual 59, 3) := by decide +kernel
theorem dX5_squared_34 : decode cX5_squared 34 = .ok (.if_icmp .ge 50, 3) := by decide +kernel
theorem dX5_squared_37 : decode cX5_squared 37 = .ok (.aload_n 0, 1) := by decide +kernel
theorem dX5_squared_38 : decode cX5_squared 38 = .ok (.getfield 48, 3) := by decide +kernel
theorem dX5_squared_41 : decode cX5_squared 41 = .ok (.ifCond .ne 43, 3) := by decide +kernel
theorem dX5_squared_44 : decode cX5_squared 44 = .ok (.aload_n 0, 1) := by decide +kernel
theorem dX5_squared_45 : decode cX5_squared 45 = .ok (.getfield 7, 3) := by decide +kernel
theorem dX5_squared_48 : decode cX5_squared 48 = .ok (.iconst 3, 1) := by decide +kernel
theorem dX5_squared_49 : decode cX5_squared 49 = .ok (.iload 4, 2) := by decide +kernel
theorem dX5_squared_51 : decode cX5_squared 51 = .ok (.imul, 1) := by decide +kernel
theorem dX5_squared_52 : decode cX5_squared 52 = .ok (.iload_n 1, 1) := by decide +kernel
theorem dX5_squared_53 : decode cX5_squared 53 = .ok (.iadd, 1) := by decide +kernel
theorem dX5_squared_54 : decode cX5_squared 54 = .ok (.iaload, 1) := by decide +kernel
theorem dX5_squared_55 : decode cX5_squared 55 = .ok (.aload_n 0, 1) := by decide +kernel
theorem dX5_squared_56 : decode cX5_squared 56 = .ok (.getfield 13, 3) := by decide +kernel
theorem dX5_squared_59 : decode cX5_squared 59 = .ok (.iconst 3, 1) := by decide +kernel
theorem dX5_squared_60 : decode cX5_squared 60 = .ok (.iload 4, 2) := by decide +kernel
theorem dX5_squared_62 : decode cX5_squared 62 = .ok (.imul, 1) := by decide +kernel
theorem dX5_squared_63 : decode cX5_squared 63 = .ok (.iload_n 1, 1) := by decide +kernel
theorem dX5_squared_64 : decode cX5_squared 64 = .ok (.iadd, 1) := by decide +kernel
theorem dX5_squared_65 : decode cX5_squared 65 = .ok (.iaload, 1) := by decide +kernel
theorem dX5_squared_66 : decode cX5_squared 66 = .ok (.isub, 1) := by decide +kernel
theorem dX5_squared_67 : decode cX5_squared 67 = .ok (.i2l, 1) := by decide +kernel
theorem dX5_squared_68 : decode cX5_squared 68 = .ok (.lstore 5, 2) := by decide +kernel
theorem dX5_squared_70 : decode cX5_squared 70 = .ok (.lload_n 2, 1) := by decide +kernel
theorem dX5_squared_71 : decode cX5_squared 71 = .ok (.lload 5, 2) := by decide +kernel
theorem dX5_squared_73 : decode cX5_squared 73 = .ok (.lload 5, 2) := by decide +kernel
theorem dX5_squared_75 : decode cX5_squared 75 = .ok (.lmul, 1) := by decide +kernel
theorem dX5_squared_76 : decode cX5_squared 76 = .ok (.ladd, 1) := by decide +kernel
theorem dX5_squared_77 : decode cX5_squared 77 = .ok (.lstore_n 2, 1) := by decide +kernel
theorem dX5_squared_78 : decode cX5_squared 78 = .ok (.iinc 4 1, 3) := by decide +kernel
theorem dX5_squared_81 : decode cX5_squared 81 = .ok (.goto (-53), 3) := by decide +kernel
theorem dX5_squared_84 : decode cX5_squared 84 = .ok (.aload_n 0, 1) := by decide +kernel
theorem dX5_squared_85 : decode cX5_squared 85 = .ok (.getfield 48, 3) := by decide +kernel
theorem dX5_squared_88 : decode cX5_squared 88 = .ok (.ifCond .le 7, 3) := by decide +kernel
theorem dX5_squared_91 : decode cX5_squared 91 = .ok (.dconst 0, 1) := by decide +kernel
theorem dX5_squared_92 : decode cX5_squared 92 = .ok (.goto 11, 3) := by decide +kernel
theorem dX5_squared_95 : decode cX5_squared 95 = .ok (.lload_n 2, 1) := by decide +kernel
theorem dX5_squared_96 : decode cX5_squared 96 = .ok (.l2d, 1) := by decide +kernel
theorem dX5_squared_97 : decode cX5_squared 97 = .ok (.aload_n 0, 1) := by decide +kernel
theorem dX5_squared_98 : decode cX5_squared 98 = .ok (.invokevirtual 59, 3) := by decide +kernel
theorem dX5_squared_101 : decode cX5_squared 101 = .ok (.i2d, 1) := by decide +kernel
theorem dX5_squared_102 : decode cX5_squared 102 = .ok (.ddiv, 1) := by decide +kernel
theorem dX5_squared_103 : decode cX5_squared 103 = .ok (.dreturn, 1) := by decide +kernel
set_option maxRecDepth 20000 in
theorem ggX5_greatest_X5_places : GoodIn wsX5_greatest wsX5_places := goodIn_r _ [8, 9, 10, 11, 12, 13, 14, 15, 16, 17, 18, 19, 20, 21, 22, 23, 24, 25] (by decide +kernel) (by decide +kernel)
set_option maxRecDepth 20000 in
theorem gX5_greatest_X5_places : GoodIn wsX5_greatest (wsV RX5 59 RX5 yX5_places wsX5_places) := goodIn_app (goodIn_of _ (by decide +kernel)) ggX5_greatest_X5_places
theorem dX5_greatest_0 : decode cX5_greatest 0 = .ok (.aload_n 0, 1) := by decide +kernel
theorem dX5_greatest_1 : decode cX5_greatest 1 = .ok (.iconst 0, 1) := by decide +kernel
theorem dX5_greatest_2 : decode cX5_greatest 2 = .ok (.putfield 48, 3) := by decide +kernel
theorem dX5_greatest_5 : decode cX5_greatest 5 = .ok (.iconst 0, 1) := by decide +kernel
theorem dX5_greatest_6 : decode cX5_greatest 6 = .ok (.istore_n 1, 1) := by decide +kernel
theorem dX5_greatest_7 : decode cX5_greatest 7 = .ok (.iconst 0, 1) := by decide +kernel
theorem dX5_greatest_8 : decode cX5_greatest 8 = .ok (.istore_n 2, 1) := by decide +kernel
theorem dX5_greatest_9 : decode cX5_greatest 9 = .ok (.iload_n 2, 1) := by decide +kernel
theorem dX5_greatest_10 : decode cX5_greatest 10 = .ok (.iconst 3, 1) := by decide +kernel
theorem dX5_greatest_11 : decode cX5_greatest 11 = .ok (.aload_n 0, 1) := by decide +kernel
theorem dX5_greatest_12 : decode cX5_greatest 12 = .ok (.invokevirtual 59, 3) := by decide +kernel
theorem dX5_greatest_15 : decode cX5_greatest 15 = .ok (.imul, 1) := by decide +kernel
theorem dX5_greatest_16 : decode cX5_greatest 16 = .ok (.if_icmp .ge 65, 3) := by decide +kernel
theorem dX5_greatest_19 : decode cX5_greatest 19 = .ok (.aload_n 0, 1) := by decide +kernel
theorem dX5_greatest_20 : decode cX5_greatest 20 = .ok (.getfield 7, 3) := by decide +kernel
theorem dX5_greatest_23 : decode cX5_greatest 23 = .ok (.iload_n 2, 1) := by decide +kernel
theorem dX5_greatest_24 : decode cX5_greatest 24 = .ok (.iaload, 1) := by decide +kernel
theorem dX5_greatest_25 : decode cX5_greatest 25 = .ok (.aload_n 0, 1) := by decide +kernel
theorem dX5_greatest_26 : decode cX5_greatest 26 = .ok (.getfield 13, 3) := by decide +kernel
theorem dX5_greatest_29 : decode cX5_greatest 29 = .ok (.iload_n 2, 1) := by decide +kernel
theorem dX5_greatest_30 : decode cX5_greatest 30 = .ok (.iaload, 1) := by decide +kernel
theorem dX5_greatest_31 : decode cX5_greatest 31 = .ok (.if_icmp .ge 19, 3) := by decide +kernel
theorem dX5_greatest_34 : decode cX5_greatest 34 = .ok (.aload_n 0, 1) := by decide +kernel
theorem dX5_greatest_35 : decode cX5_greatest 35 = .ok (.getfield 13, 3) := by decide +kernel
theorem dX5_greatest_38 : decode cX5_greatest 38 = .ok (.iload_n 2, 1) := by decide +kernel
theorem dX5_greatest_39 : decode cX5_greatest 39 = .ok (.iaload, 1) := by decide +kernel
theorem dX5_greatest_40 : decode cX5_greatest 40 = .ok (.aload_n 0, 1) := by decide +kernel
theorem dX5_greatest_41 : decode cX5_greatest 41 = .ok (.getfield 7, 3) := by decide +kernel
theorem dX5_greatest_44 : decode cX5_greatest 44 = .ok (.iload_n 2, 1) := by decide +kernel
theorem dX5_greatest_45 : decode cX5_greatest 45 = .ok (.iaload, 1) := by decide +kernel
theorem dX5_greatest_46 : decode cX5_greatest 46 = .ok (.isub, 1) := by decide +kernel
theorem dX5_greatest_47 : decode cX5_greatest 47 = .ok (.goto 16, 3) := by decide +kernel
theorem dX5_greatest_50 : decode cX5_greatest 50 = .ok (.aload_n 0, 1) := by decide +kernel
theorem dX5_greatest_51 : decode cX5_greatest 51 = .ok (.getfield 7, 3) := by decide +kernel
theorem dX5_greatest_54 : decode cX5_greatest 54 = .ok (.iload_n 2, 1) := by decide +kernel
theorem dX5_greatest_55 : decode cX5_greatest 55 = .ok (.iaload, 1) := by decide +kernel
theorem dX5_greatest_56 : decode cX5_greatest 56 = .ok (.aload_n 0, 1) := by decide +kernel
theorem dX5_greatest_57 : decode cX5_greatest 57 = .ok (.getfield 13, 3) := by decide +kernel
theorem dX5_greatest_60 : decode cX5_greatest 60 = .ok (.iload_n 2, 1) := by decide +kernel
theorem dX5_greatest_61 : decode cX5_greatest 61 = .ok (.iaload, 1) := by decide +kernel
theorem dX5_greatest_62 : decode cX5_greatest 62 = .ok (.isub, 1) := by decide +kernel
theorem dX5_greatest_63 : decode cX5_greatest 63 = .ok (.istore_n 3, 1) := by decide +kernel
theorem dX5_greatest_64 : decode cX5_greatest 64 = .ok (.iload_n 3, 1) := by decide +kernel
theorem dX5_greatest_65 : decode cX5_greatest 65 = .ok (.iload_n 1, 1) := by decide +kernel
theorem dX5_greatest_66 : decode cX5_greatest 66 = .ok (.if_icmp .le 7, 3) := by decide +kernel
theorem dX5_greatest_69 : decode cX5_greatest 69 = .ok (.iload_n 3, 1) := by decide +kernel
theorem dX5_greatest_70 : decode cX5_greatest 70 = .ok (.goto 4, 3) := by decide +kernel
theorem dX5_greatest_73 : decode cX5_greatest 73 = .ok (.iload_n 1, 1) := by decide +kernel
theorem dX5_greatest_74 : decode cX5_greatest 74 = .ok (.istore_n 1, 1) := by decide +kernel
theorem dX5_greatest_75 : decode cX5_greatest 75 = .ok (.iinc 2 1, 3) := by decide +kernel
theorem dX5_greatest_78 : decode cX5_greatest 78 = .ok (.goto (-69), 3) := by decide +kernel
theorem dX5_greatest_81 : decode cX5_greatest 81 = .ok (.iload_n 1, 1) := by decide +kernel
theorem dX5_greatest_82 : decode cX5_greatest 82 = .ok (.ireturn, 1) := by decide +kernel
set_option maxRecDepth 20000 in
theorem ggX5_equal_X5_greatest : GoodIn wsX5_equal wsX5_greatest := goodIn_r _ [5, 6, 7, 8, 9, 10, 11, 4, 12, 13, 14, 15, 16, 17, 18, 19, 20, 21, 22, 23, 24, 25, 26, 27, 28, 29] (by decide +kernel) (by decide +kernel)
set_option maxRecDepth 20000 in
theorem gX5_equal_X5_greatest : GoodIn wsX5_equal (wsV RX5 63 RX5 yX5_greatest wsX5_greatest) := goodIn_app (goodIn_of _ (by decide +kernel)) ggX5_equal_X5_greatest
theorem dX5_equal_0 : decode cX5_equal 0 = .ok (.aload_n 0, 1) := by decide +kernel
theorem dX5_equal_1 : decode cX5_equal 1 = .ok (.invokevirtual 63, 3) := by decide +kernel
theorem dX5_equal_4 : decode cX5_equal 4 = .ok (.ifCond .ne 7, 3) := by decide +kernel
theorem dX5_equal_7 : decode cX5_equal 7 = .ok (.iconst 1, 1) := by decide +kernel
theorem dX5_equal_8 : decode cX5_equal 8 = .ok (.goto 4, 3) := by decide +kernel
theorem dX5_equal_11 : decode cX5_equal 11 = .ok (.iconst 0, 1) := by decide +kernel
theorem dX5_equal_12 : decode cX5_equal 12 = .ok (.ireturn, 1) := by decide +kernel
theorem dX5_greyOf_0 : decode cX5_greyOf 0 = .ok (.iload_n 1, 1) := by decide +kernel
theorem dX5_greyOf_1 : decode cX5_greyOf 1 = .ok (.ifCond .eq 14, 3) := by decide +kernel
theorem dX5_greyOf_4 : decode cX5_greyOf 4 = .ok (.aload_n 0, 1) := by decide +kernel
theorem dX5_greyOf_5 : decode cX5_greyOf 5 = .ok (.getfield 7, 3) := by decide +kernel
theorem dX5_greyOf_8 : decode cX5_greyOf 8 = .ok (.iconst 3, 1) := by decide +kernel
theorem dX5_greyOf_9 : decode cX5_greyOf 9 = .ok (.iload_n 2, 1) := by decide +kernel
theorem dX5_greyOf_10 : decode cX5_greyOf 10 = .ok (.imul, 1) := by decide +kernel
theorem dX5_greyOf_11 : decode cX5_greyOf 11 = .ok (.iaload, 1) := by decide +kernel
theorem dX5_greyOf_12 : decode cX5_greyOf 12 = .ok (.goto 11, 3) := by decide +kernel
theorem dX5_greyOf_15 : decode cX5_greyOf 15 = .ok (.aload_n 0, 1) := by decide +kernel
theorem dX5_greyOf_16 : decode cX5_greyOf 16 = .ok (.getfield 13, 3) := by decide +kernel
theorem dX5_greyOf_19 : decode cX5_greyOf 19 = .ok (.iconst 3, 1) := by decide +kernel
theorem dX5_greyOf_20 : decode cX5_greyOf 20 = .ok (.iload_n 2, 1) := by decide +kernel
theorem dX5_greyOf_21 : decode cX5_greyOf 21 = .ok (.imul, 1) := by decide +kernel
theorem dX5_greyOf_22 : decode cX5_greyOf 22 = .ok (.iaload, 1) := by decide +kernel
theorem dX5_greyOf_23 : decode cX5_greyOf 23 = .ok (.istore_n 3, 1) := by decide +kernel
theorem dX5_greyOf_24 : decode cX5_greyOf 24 = .ok (.iload_n 1, 1) := by decide +kernel
theorem dX5_greyOf_25 : decode cX5_greyOf 25 = .ok (.ifCond .eq 16, 3) := by decide +kernel
theorem dX5_greyOf_28 : decode cX5_greyOf 28 = .ok (.aload_n 0, 1) := by decide +kernel
theorem dX5_greyOf_29 : decode cX5_greyOf 29 = .ok (.getfield 7, 3) := by decide +kernel
theorem dX5_greyOf_32 : decode cX5_greyOf 32 = .ok (.iconst 3, 1) := by decide +kernel
theorem dX5_greyOf_33 : decode cX5_greyOf 33 = .ok (.iload_n 2, 1) := by decide +kernel
theorem dX5_greyOf_34 : decode cX5_greyOf 34 = .ok (.imul, 1) := by decide +kernel
theorem dX5_greyOf_35 : decode cX5_greyOf 35 = .ok (.iconst 1, 1) := by decide +kernel
theorem dX5_greyOf_36 : decode cX5_greyOf 36 = .ok (.iadd, 1) := by decide +kernel
theorem dX5_greyOf_37 : decode cX5_greyOf 37 = .ok (.iaload, 1) := by decide +kernel
theorem dX5_greyOf_38 : decode cX5_greyOf 38 = .ok (.goto 13, 3) := by decide +kernel
theorem dX5_greyOf_41 : decode cX5_greyOf 41 = .ok (.aload_n 0, 1) := by decide +kernel
theorem dX5_greyOf_42 : decode cX5_greyOf 42 = .ok (.getfield 13, 3) := by decide +kernel
theorem dX5_greyOf_45 : decode cX5_greyOf 45 = .ok (.iconst 3, 1) := by decide +kernel
theorem dX5_greyOf_46 : decode cX5_greyOf 46 = .ok (.iload_n 2, 1) := by decide +kernel
theorem dX5_greyOf_47 : decode cX5_greyOf 47 = .ok (.imul, 1) := by decide +kernel
theorem dX5_greyOf_48 : decode cX5_greyOf 48 = .ok (.iconst 1, 1) := by decide +kernel
theorem dX5_greyOf_49 : decode cX5_greyOf 49 = .ok (.iadd, 1) := by decide +kernel
theorem dX5_greyOf_50 : decode cX5_greyOf 50 = .ok (.iaload, 1) := by decide +kernel
theorem dX5_greyOf_51 : decode cX5_greyOf 51 = .ok (.istore 4, 2) := by decide +kernel
theorem dX5_greyOf_53 : decode cX5_greyOf 53 = .ok (.iload_n 1, 1) := by decide +kernel
theorem dX5_greyOf_54 : decode cX5_greyOf 54 = .ok (.ifCond .eq 16, 3) := by decide +kernel
theorem dX5_greyOf_57 : decode cX5_greyOf 57 = .ok (.aload_n 0, 1) := by decide +kernel
theorem dX5_greyOf_58 : decode cX5_greyOf 58 = .ok (.getfield 7, 3) := by decide +kernel
theorem dX5_greyOf_61 : decode cX5_greyOf 61 = .ok (.iconst 3, 1) := by decide +kernel
theorem dX5_greyOf_62 : decode cX5_greyOf 62 = .ok (.iload_n 2, 1) := by decide +kernel
theorem dX5_greyOf_63 : decode cX5_greyOf 63 = .ok (.imul, 1) := by decide +kernel
theorem dX5_greyOf_64 : decode cX5_greyOf 64 = .ok (.iconst 2, 1) := by decide +kernel
theorem dX5_greyOf_65 : decode cX5_greyOf 65 = .ok (.iadd, 1) := by decide +kernel
theorem dX5_greyOf_66 : decode cX5_greyOf 66 = .ok (.iaload, 1) := by decide +kernel
theorem dX5_greyOf_67 : decode cX5_greyOf 67 = .ok (.goto 13, 3) := by decide +kernel
theorem dX5_greyOf_70 : decode cX5_greyOf 70 = .ok (.aload_n 0, 1) := by decide +kernel
theorem dX5_greyOf_71 : decode cX5_greyOf 71 = .ok (.getfield 13, 3) := by decide +kernel
theorem dX5_greyOf_74 : decode cX5_greyOf 74 = .ok (.iconst 3, 1) := by decide +kernel
theorem dX5_greyOf_75 : decode cX5_greyOf 75 = .ok (.iload_n 2, 1) := by decide +kernel
theorem dX5_greyOf_76 : decode cX5_greyOf 76 = .ok (.imul, 1) := by decide +kernel
theorem dX5_greyOf_77 : decode cX5_greyOf 77 = .ok (.iconst 2, 1) := by decide +kernel
theorem dX5_greyOf_78 : decode cX5_greyOf 78 = .ok (.iadd, 1) := by decide +kernel
theorem dX5_greyOf_79 : decode cX5_greyOf 79 = .ok (.iaload, 1) := by decide +kernel
theorem dX5_greyOf_80 : decode cX5_greyOf 80 = .ok (.istore 5, 2) := by decide +kernel
theorem dX5_greyOf_82 : decode cX5_greyOf 82 = .ok (.aload_n 0, 1) := by decide +kernel
theorem dX5_greyOf_83 : decode cX5_greyOf 83 = .ok (.getfield 45, 3) := by decide +kernel
theorem dX5_greyOf_86 : decode cX5_greyOf 86 = .ok (.iconst 1, 1) := by decide +kernel
theorem dX5_greyOf_87 : decode cX5_greyOf 87 = .ok (.if_icmp .ne 7, 3) := by decide +kernel
theorem dX5_greyOf_90 : decode cX5_greyOf 90 = .ok (.iload_n 3, 1) := by decide +kernel
theorem dX5_greyOf_91 : decode cX5_greyOf 91 = .ok (.goto 35, 3) := by decide +kernel
theorem dX5_greyOf_94 : decode cX5_greyOf 94 = .ok (.aload_n 0, 1) := by decide +kernel
theorem dX5_greyOf_95 : decode cX5_greyOf 95 = .ok (.getfield 45, 3) := by decide +kernel
theorem dX5_greyOf_98 : decode cX5_greyOf 98 = .ok (.iconst 2, 1) := by decide +kernel
theorem dX5_greyOf_99 : decode cX5_greyOf 99 = .ok (.if_icmp .ne 14, 3) := by decide +kernel
theorem dX5_greyOf_102 : decode cX5_greyOf 102 = .ok (.iload_n 3, 1) := by decide +kernel
theorem dX5_greyOf_103 : decode cX5_greyOf 103 = .ok (.iload 4, 2) := by decide +kernel
theorem dX5_greyOf_105 : decode cX5_greyOf 105 = .ok (.iadd, 1) := by decide +kernel
theorem dX5_greyOf_106 : decode cX5_greyOf 106 = .ok (.iconst 1, 1) := by decide +kernel
theorem dX5_greyOf_107 : decode cX5_greyOf 107 = .ok (.iadd, 1) := by decide +kernel
theorem dX5_greyOf_108 : decode cX5_greyOf 108 = .ok (.iconst 2, 1) := by decide +kernel
theorem dX5_greyOf_109 : decode cX5_greyOf 109 = .ok (.idiv, 1) := by decide +kernel
theorem dX5_greyOf_110 : decode cX5_greyOf 110 = .ok (.goto 16, 3) := by decide +kernel
theorem dX5_greyOf_113 : decode cX5_greyOf 113 = .ok (.iload_n 3, 1) := by decide +kernel
theorem dX5_greyOf_114 : decode cX5_greyOf 114 = .ok (.iconst 2, 1) := by decide +kernel
theorem dX5_greyOf_115 : decode cX5_greyOf 115 = .ok (.iload 4, 2) := by decide +kernel
theorem dX5_greyOf_117 : decode cX5_greyOf 117 = .ok (.imul, 1) := by decide +kernel
theorem dX5_greyOf_118 : decode cX5_greyOf 118 = .ok (.iadd, 1) := by decide +kernel
theorem dX5_greyOf_119 : decode cX5_greyOf 119 = .ok (.iload 5, 2) := by decide +kernel
theorem dX5_greyOf_121 : decode cX5_greyOf 121 = .ok (.iadd, 1) := by decide +kernel
theorem dX5_greyOf_122 : decode cX5_greyOf 122 = .ok (.iconst 2, 1) := by decide +kernel
theorem dX5_greyOf_123 : decode cX5_greyOf 123 = .ok (.iadd, 1) := by decide +kernel
theorem dX5_greyOf_124 : decode cX5_greyOf 124 = .ok (.iconst 4, 1) := by decide +kernel
theorem dX5_greyOf_125 : decode cX5_greyOf 125 = .ok (.idiv, 1) := by decide +kernel
theorem dX5_greyOf_126 : decode cX5_greyOf 126 = .ok (.ireturn, 1) := by decide +kernel
set_option maxRecDepth 20000 in
theorem ggX5_grey_X5_isPlace : GoodIn wsX5_grey wsX5_isPlace := goodIn_r _ [7, 2, 8, 9, 10, 6, 11, 19, 20, 21, 22, 23, 24, 25, 26, 27, 28, 29, 30, 31, 32, 33] (by decide +kernel) (by decide +kernel)
set_option maxRecDepth 20000 in
theorem gX5_grey_X5_isPlace : GoodIn wsX5_grey (wsV RX5 55 RX5 yX5_isPlace wsX5_isPlace) := goodIn_app (goodIn_of _ (by decide +kernel)) ggX5_grey_X5_isPlace
set_option maxRecDepth 20000 in
theorem ggX5_grey_X5_greyOf : GoodIn wsX5_grey wsX5_greyOf := goodIn_r _ [15, 16, 17, 18, 19, 20, 21, 22, 23, 24, 25, 26, 27, 28, 29, 30, 31, 32, 33] (by decide +kernel) (by decide +kernel)
set_option maxRecDepth 20000 in
theorem gX5_grey_X5_greyOf : GoodIn wsX5_grey (wsV RX5 66 RX5 yX5_greyOf wsX5_greyOf) := goodIn_app (goodIn_of _ (by decide +kernel)) ggX5_grey_X5_greyOf
theorem dX5_grey_0 : decode cX5_grey 0 = .ok (.aload_n 0, 1) := by decide +kernel
theorem dX5_grey_1 : decode cX5_grey 1 = .ok (.aload_n 0, 1) := by decide +kernel
theorem dX5_grey_2 : decode cX5_grey 2 = .ok (.iload_n 2, 1) := by decide +kernel
theorem dX5_grey_3 : decode cX5_grey 3 = .ok (.iload_n 3, 1) := by decide +kernel
theorem dX5_grey_4 : decode cX5_grey 4 = .ok (.invokevirtual 55, 3) := by decide +kernel
theorem dX5_grey_7 : decode cX5_grey 7 = .ok (.ifCond .eq 7, 3) := by decide +kernel
theorem dX5_grey_10 : decode cX5_grey 10 = .ok (.iconst 0, 1) := by decide +kernel
theorem dX5_grey_11 : decode cX5_grey 11 = .ok (.goto 4, 3) := by decide +kernel
theorem dX5_grey_14 : decode cX5_grey 14 = .ok (.iconst 1, 1) := by decide +kernel
theorem dX5_grey_15 : decode cX5_grey 15 = .ok (.putfield 48, 3) := by decide +kernel
theorem dX5_grey_18 : decode cX5_grey 18 = .ok (.aload_n 0, 1) := by decide +kernel
theorem dX5_grey_19 : decode cX5_grey 19 = .ok (.getfield 48, 3) := by decide +kernel
theorem dX5_grey_22 : decode cX5_grey 22 = .ok (.ifCond .le 7, 3) := by decide +kernel
theorem dX5_grey_25 : decode cX5_grey 25 = .ok (.iconst 0, 1) := by decide +kernel
theorem dX5_grey_26 : decode cX5_grey 26 = .ok (.goto 16, 3) := by decide +kernel
theorem dX5_grey_29 : decode cX5_grey 29 = .ok (.aload_n 0, 1) := by decide +kernel
theorem dX5_grey_30 : decode cX5_grey 30 = .ok (.iload_n 1, 1) := by decide +kernel
theorem dX5_grey_31 : decode cX5_grey 31 = .ok (.aload_n 0, 1) := by decide +kernel
theorem dX5_grey_32 : decode cX5_grey 32 = .ok (.getfield 38, 3) := by decide +kernel
theorem dX5_grey_35 : decode cX5_grey 35 = .ok (.iload_n 3, 1) := by decide +kernel
theorem dX5_grey_36 : decode cX5_grey 36 = .ok (.imul, 1) := by decide +kernel
theorem dX5_grey_37 : decode cX5_grey 37 = .ok (.iload_n 2, 1) := by decide +kernel
theorem dX5_grey_38 : decode cX5_grey 38 = .ok (.iadd, 1) := by decide +kernel
theorem dX5_grey_39 : decode cX5_grey 39 = .ok (.invokevirtual 66, 3) := by decide +kernel
theorem dX5_grey_42 : decode cX5_grey 42 = .ok (.ireturn, 1) := by decide +kernel
set_option maxRecDepth 20000 in
theorem ggX5_makeGrey_X5_places : GoodIn wsX5_makeGrey wsX5_places := goodIn_r _ [11, 1, 3, 19, 20, 21, 22, 23, 24, 25, 26, 27, 28, 29, 30, 31, 32, 33] (by decide +kernel) (by decide +kernel)
set_option maxRecDepth 20000 in
theorem gX5_makeGrey_X5_places : GoodIn wsX5_makeGrey (wsV RX5 59 RX5 yX5_places wsX5_places) := goodIn_app (goodIn_of _ (by decide +kernel)) ggX5_makeGrey_X5_places
set_option maxRecDepth 20000 in
theorem ggX5_makeGrey_X5_greyOf : GoodIn wsX5_makeGrey wsX5_greyOf := goodIn_r _ [15, 16, 17, 18, 19, 20, 21, 22, 23, 24, 25, 26, 27, 28, 29, 30, 31, 32, 33] (by decide +kernel) (by decide +kernel)
set_option maxRecDepth 20000 in
theorem gX5_makeGrey_X5_greyOf : GoodIn wsX5_makeGrey (wsV RX5 66 RX5 yX5_greyOf wsX5_greyOf) := goodIn_app (goodIn_of _ (by decide +kernel)) ggX5_makeGrey_X5_greyOf
theorem dX5_makeGrey_0 : decode cX5_makeGrey 0 = .ok (.aload_n 0, 1) := by decide +kernel
theorem dX5_makeGrey_1 : decode cX5_makeGrey 1 = .ok (.aload_n 0, 1) := by decide +kernel
theorem dX5_makeGrey_2 : decode cX5_makeGrey 2 = .ok (.getfield 38, 3) := by decide +kernel
theorem dX5_makeGrey_5 : decode cX5_makeGrey 5 = .ok (.putfield 70, 3) := by decide +kernel
theorem dX5_makeGrey_8 : decode cX5_makeGrey 8 = .ok (.aload_n 0, 1) := by decide +kernel
theorem dX5_makeGrey_9 : decode cX5_makeGrey 9 = .ok (.aload_n 0, 1) := by decide +kernel
theorem dX5_makeGrey_10 : decode cX5_makeGrey 10 = .ok (.getfield 42, 3) := by decide +kernel
theorem dX5_makeGrey_13 : decode cX5_makeGrey 13 = .ok (.putfield 73, 3) := by decide +kernel
theorem dX5_makeGrey_16 : decode cX5_makeGrey 16 = .ok (.iconst 0, 1) := by decide +kernel
theorem dX5_makeGrey_17 : decode cX5_makeGrey 17 = .ok (.istore_n 1, 1) := by decide +kernel
theorem dX5_makeGrey_18 : decode cX5_makeGrey 18 = .ok (.iload_n 1, 1) := by decide +kernel
theorem dX5_makeGrey_19 : decode cX5_makeGrey 19 = .ok (.aload_n 0, 1) := by decide +kernel
theorem dX5_makeGrey_20 : decode cX5_makeGrey 20 = .ok (.invokevirtual 59, 3) := by decide +kernel
theorem dX5_makeGrey_23 : decode cX5_makeGrey 23 = .ok (.if_icmp .ge 33, 3) := by decide +kernel
theorem dX5_makeGrey_26 : decode cX5_makeGrey 26 = .ok (.aload_n 0, 1) := by decide +kernel
theorem dX5_makeGrey_27 : decode cX5_makeGrey 27 = .ok (.getfield 16, 3) := by decide +kernel
theorem dX5_makeGrey_30 : decode cX5_makeGrey 30 = .ok (.iload_n 1, 1) := by decide +kernel
theorem dX5_makeGrey_31 : decode cX5_makeGrey 31 = .ok (.aload_n 0, 1) := by decide +kernel
theorem dX5_makeGrey_32 : decode cX5_makeGrey 32 = .ok (.iconst 1, 1) := by decide +kernel
theorem dX5_makeGrey_33 : decode cX5_makeGrey 33 = .ok (.iload_n 1, 1) := by decide +kernel
theorem dX5_makeGrey_34 : decode cX5_makeGrey 34 = .ok (.invokevirtual 66, 3) := by decide +kernel
theorem dX5_makeGrey_37 : decode cX5_makeGrey 37 = .ok (.iastore, 1) := by decide +kernel
theorem dX5_makeGrey_38 : decode cX5_makeGrey 38 = .ok (.aload_n 0, 1) := by decide +kernel
theorem dX5_makeGrey_39 : decode cX5_makeGrey 39 = .ok (.getfield 19, 3) := by decide +kernel
theorem dX5_makeGrey_42 : decode cX5_makeGrey 42 = .ok (.iload_n 1, 1) := by decide +kernel
theorem dX5_makeGrey_43 : decode cX5_makeGrey 43 = .ok (.aload_n 0, 1) := by decide +kernel
theorem dX5_makeGrey_44 : decode cX5_makeGrey 44 = .ok (.iconst 0, 1) := by decide +kernel
theorem dX5_makeGrey_45 : decode cX5_makeGrey 45 = .ok (.iload_n 1, 1) := by decide +kernel
theorem dX5_makeGrey_46 : decode cX5_makeGrey 46 = .ok (.invokevirtual 66, 3) := by decide +kernel
theorem dX5_makeGrey_49 : decode cX5_makeGrey 49 = .ok (.iastore, 1) := by decide +kernel
theorem dX5_makeGrey_50 : decode cX5_makeGrey 50 = .ok (.iinc 1 1, 3) := by decide +kernel
theorem dX5_makeGrey_53 : decode cX5_makeGrey 53 = .ok (.goto (-35), 3) := by decide +kernel
theorem dX5_makeGrey_56 : decode cX5_makeGrey 56 = .ok (.return_, 1) := by decide +kernel
theorem dX5_halve_0 : decode cX5_halve 0 = .ok (.aload_n 0, 1) := by decide +kernel
theorem dX5_halve_1 : decode cX5_halve 1 = .ok (.getfield 70, 3) := by decide +kernel
theorem dX5_halve_4 : decode cX5_halve 4 = .ok (.iconst 2, 1) := by decide +kernel
theorem dX5_halve_5 : decode cX5_halve 5 = .ok (.idiv, 1) := by decide +kernel
theorem dX5_halve_6 : decode cX5_halve 6 = .ok (.istore_n 1, 1) := by decide +kernel
theorem dX5_halve_7 : decode cX5_halve 7 = .ok (.aload_n 0, 1) := by decide +kernel
theorem dX5_halve_8 : decode cX5_halve 8 = .ok (.getfield 73, 3) := by decide +kernel
theorem dX5_halve_11 : decode cX5_halve 11 = .ok (.iconst 2, 1) := by decide +kernel
theorem dX5_halve_12 : decode cX5_halve 12 = .ok (.idiv, 1) := by decide +kernel
theorem dX5_halve_13 : decode cX5_halve 13 = .ok (.istore_n 2, 1) := by decide +kernel
theorem dX5_halve_14 : decode cX5_halve 14 = .ok (.iconst 0, 1) := by decide +kernel
theorem dX5_halve_15 : decode cX5_halve 15 = .ok (.istore_n 3, 1) := by decide +kernel
theorem dX5_halve_16 : decode cX5_halve 16 = .ok (.iload_n 3, 1) := by decide +kernel
theorem dX5_halve_17 : decode cX5_halve 17 = .ok (.iload_n 2, 1) := by decide +kernel
theorem dX5_halve_18 : decode cX5_halve 18 = .ok (.if_icmp .ge 159, 3) := by decide +kernel
theorem dX5_halve_21 : decode cX5_halve 21 = .ok (.iconst 0, 1) := by decide +kernel
theorem dX5_halve_22 : decode cX5_halve 22 = .ok (.istore 4, 2) := by decide +kernel
theorem dX5_halve_24 : decode cX5_halve 24 = .ok (.iload 4, 2) := by decide +kernel
theorem dX5_halve_26 : decode cX5_halve 26 = .ok (.iload_n 1, 1) := by decide +kernel
theorem dX5_halve_27 : decode cX5_halve 27 = .ok (.if_icmp .ge 144, 3) := by decide +kernel
theorem dX5_halve_30 : decode cX5_halve 30 = .ok (.iconst 2, 1) := by decide +kernel
theorem dX5_halve_31 : decode cX5_halve 31 = .ok (.aload_n 0, 1) := by decide +kernel
theorem dX5_halve_32 : decode cX5_halve 32 = .ok (.getfield 70, 3) := by decide +kernel
theorem dX5_halve_35 : decode cX5_halve 35 = .ok (.imul, 1) := by decide +kernel
theorem dX5_halve_36 : decode cX5_halve 36 = .ok (.iload_n 3, 1) := by decide +kernel
theorem dX5_halve_37 : decode cX5_halve 37 = .ok (.imul, 1) := by decide +kernel
theorem dX5_halve_38 : decode cX5_halve 38 = .ok (.iconst 2, 1) := by decide +kernel
theorem dX5_halve_39 : decode cX5_halve 39 = .ok (.iload 4, 2) := by decide +kernel
theorem dX5_halve_41 : decode cX5_halve 41 = .ok (.imul, 1) := by decide +kernel
theorem dX5_halve_42 : decode cX5_halve 42 = .ok (.iadd, 1) := by decide +kernel
theorem dX5_halve_43 : decode cX5_halve 43 = .ok (.istore 5, 2) := by decide +kernel
theorem dX5_halve_45 : decode cX5_halve 45 = .ok (.aload_n 0, 1) := by decide +kernel
theorem dX5_halve_46 : decode cX5_halve 46 = .ok (.getfield 16, 3) := by decide +kernel
theorem dX5_halve_49 : decode cX5_halve 49 = .ok (.iload_n 1, 1) := by decide +kernel
theorem dX5_halve_50 : decode cX5_halve 50 = .ok (.iload_n 3, 1) := by decide +kernel
theorem dX5_halve_51 : decode cX5_halve 51 = .ok (.imul, 1) := by decide +kernel
theorem dX5_halve_52 : decode cX5_halve 52 = .ok (.iload 4, 2) := by decide +kernel
theorem dX5_halve_54 : decode cX5_halve 54 = .ok (.iadd, 1) := by decide +kernel
theorem dX5_halve_55 : decode cX5_halve 55 = .ok (.aload_n 0, 1) := by decide +kernel
theorem dX5_halve_56 : decode cX5_halve 56 = .ok (.getfield 16, 3) := by decide +kernel
theorem dX5_halve_59 : decode cX5_halve 59 = .ok (.iload 5, 2) := by decide +kernel
theorem dX5_halve_61 : decode cX5_halve 61 = .ok (.iaload, 1) := by decide +kernel
theorem dX5_halve_62 : decode cX5_halve 62 = .ok (.aload_n 0, 1) := by decide +kernel
theorem dX5_halve_63 : decode cX5_halve 63 = .ok (.getfield 16, 3) := by decide +kernel
