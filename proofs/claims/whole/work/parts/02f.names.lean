theorem dX4_blocks_135 : decode cX4_blocks 135 = .ok (.dsub, 1) := by decide +kernel
theorem dX4_blocks_136 : decode cX4_blocks 136 = .ok (.dreturn, 1) := by decide +kernel
set_option maxRecDepth 20000 in
theorem ggX4_bands_X4_stepTo : GoodIn wsX4_bands wsX4_stepTo := goodIn_r _ [9, 10, 11, 12, 13, 14, 15, 16, 8, 17, 2, 18, 19, 20, 21, 22, 23, 24, 28, 29, 30, 31, 32, 33, 34, 35, 36, 37, 38, 39] (by decide +kernel) (by decide +kernel)
set_option maxRecDepth 20000 in
theorem gX4_bands_X4_stepTo : GoodIn wsX4_bands (wsV RX4 148 RX4 yX4_stepTo wsX4_stepTo) := goodIn_app (goodIn_of _ (by decide +kernel)) ggX4_bands_X4_stepTo
set_option maxRecDepth 20000 in
theorem ggX4_bands_X4_quotient : GoodIn wsX4_bands wsX4_quotient := goodIn_r _ [27] (by decide +kernel) (by decide +kernel)
set_option maxRecDepth 20000 in
theorem gX4_bands_X4_quotient : GoodIn wsX4_bands (va_wsS RX4 109 yX4_quotient wsX4_quotient) := goodIn_app (goodIn_of _ (by decide +kernel)) ggX4_bands_X4_quotient
theorem dX4_bands_0 : decode cX4_bands 0 = .ok (.iconst 0, 1) := by decide +kernel
theorem dX4_bands_1 : decode cX4_bands 1 = .ok (.istore_n 1, 1) := by decide +kernel
theorem dX4_bands_2 : decode cX4_bands 2 = .ok (.lconst 0, 1) := by decide +kernel
theorem dX4_bands_3 : decode cX4_bands 3 = .ok (.lstore_n 2, 1) := by decide +kernel
theorem dX4_bands_4 : decode cX4_bands 4 = .ok (.iconst 0, 1) := by decide +kernel
theorem dX4_bands_5 : decode cX4_bands 5 = .ok (.istore 4, 2) := by decide +kernel
theorem dX4_bands_7 : decode cX4_bands 7 = .ok (.iload 4, 2) := by decide +kernel
theorem dX4_bands_9 : decode cX4_bands 9 = .ok (.aload_n 0, 1) := by decide +kernel
theorem dX4_bands_10 : decode cX4_bands 10 = .ok (.getfield 17, 3) := by decide +kernel
theorem dX4_bands_13 : decode cX4_bands 13 = .ok (.if_icmp .ge 91, 3) := by decide +kernel
theorem dX4_bands_16 : decode cX4_bands 16 = .ok (.iconst 1, 1) := by decide +kernel
theorem dX4_bands_17 : decode cX4_bands 17 = .ok (.istore 5, 2) := by decide +kernel
theorem dX4_bands_19 : decode cX4_bands 19 = .ok (.iload 5, 2) := by decide +kernel
theorem dX4_bands_21 : decode cX4_bands 21 = .ok (.aload_n 0, 1) := by decide +kernel
theorem dX4_bands_22 : decode cX4_bands 22 = .ok (.getfield 13, 3) := by decide +kernel
theorem dX4_bands_25 : decode cX4_bands 25 = .ok (.if_icmp .ge 73, 3) := by decide +kernel
theorem dX4_bands_28 : decode cX4_bands 28 = .ok (.aload_n 0, 1) := by decide +kernel
theorem dX4_bands_29 : decode cX4_bands 29 = .ok (.aload_n 0, 1) := by decide +kernel
theorem dX4_bands_30 : decode cX4_bands 30 = .ok (.getfield 34, 3) := by decide +kernel
theorem dX4_bands_33 : decode cX4_bands 33 = .ok (.iload 5, 2) := by decide +kernel
theorem dX4_bands_35 : decode cX4_bands 35 = .ok (.iload 4, 2) := by decide +kernel
theorem dX4_bands_37 : decode cX4_bands 37 = .ok (.invokevirtual 148, 3) := by decide +kernel
theorem dX4_bands_40 : decode cX4_bands 40 = .ok (.istore 6, 2) := by decide +kernel
theorem dX4_bands_42 : decode cX4_bands 42 = .ok (.aload_n 0, 1) := by decide +kernel
theorem dX4_bands_43 : decode cX4_bands 43 = .ok (.aload_n 0, 1) := by decide +kernel
theorem dX4_bands_44 : decode cX4_bands 44 = .ok (.getfield 38, 3) := by decide +kernel
theorem dX4_bands_47 : decode cX4_bands 47 = .ok (.iload 5, 2) := by decide +kernel
theorem dX4_bands_49 : decode cX4_bands 49 = .ok (.iload 4, 2) := by decide +kernel
theorem dX4_bands_51 : decode cX4_bands 51 = .ok (.invokevirtual 148, 3) := by decide +kernel
theorem dX4_bands_54 : decode cX4_bands 54 = .ok (.istore 7, 2) := by decide +kernel
theorem dX4_bands_56 : decode cX4_bands 56 = .ok (.iinc 1 1, 3) := by decide +kernel
theorem dX4_bands_59 : decode cX4_bands 59 = .ok (.iload 6, 2) := by decide +kernel
theorem dX4_bands_61 : decode cX4_bands 61 = .ok (.iconst 1, 1) := by decide +kernel
theorem dX4_bands_62 : decode cX4_bands 62 = .ok (.if_icmp .ne 15, 3) := by decide +kernel
theorem dX4_bands_65 : decode cX4_bands 65 = .ok (.iload 7, 2) := by decide +kernel
theorem dX4_bands_67 : decode cX4_bands 67 = .ok (.ifCond .ne 10, 3) := by decide +kernel
theorem dX4_bands_70 : decode cX4_bands 70 = .ok (.lload_n 2, 1) := by decide +kernel
theorem dX4_bands_71 : decode cX4_bands 71 = .ok (.lconst 1, 1) := by decide +kernel
theorem dX4_bands_72 : decode cX4_bands 72 = .ok (.ladd, 1) := by decide +kernel
theorem dX4_bands_73 : decode cX4_bands 73 = .ok (.lstore_n 2, 1) := by decide +kernel
theorem dX4_bands_74 : decode cX4_bands 74 = .ok (.goto 18, 3) := by decide +kernel
theorem dX4_bands_77 : decode cX4_bands 77 = .ok (.iload 6, 2) := by decide +kernel
theorem dX4_bands_79 : decode cX4_bands 79 = .ok (.ifCond .ne 13, 3) := by decide +kernel
theorem dX4_bands_82 : decode cX4_bands 82 = .ok (.iload 7, 2) := by decide +kernel
theorem dX4_bands_84 : decode cX4_bands 84 = .ok (.iconst 1, 1) := by decide +kernel
theorem dX4_bands_85 : decode cX4_bands 85 = .ok (.if_icmp .ne 7, 3) := by decide +kernel
theorem dX4_bands_88 : decode cX4_bands 88 = .ok (.lload_n 2, 1) := by decide +kernel
theorem dX4_bands_89 : decode cX4_bands 89 = .ok (.lconst 1, 1) := by decide +kernel
theorem dX4_bands_90 : decode cX4_bands 90 = .ok (.lsub, 1) := by decide +kernel
theorem dX4_bands_91 : decode cX4_bands 91 = .ok (.lstore_n 2, 1) := by decide +kernel
theorem dX4_bands_92 : decode cX4_bands 92 = .ok (.iinc 5 1, 3) := by decide +kernel
theorem dX4_bands_95 : decode cX4_bands 95 = .ok (.goto (-76), 3) := by decide +kernel
theorem dX4_bands_98 : decode cX4_bands 98 = .ok (.iinc 4 1, 3) := by decide +kernel
theorem dX4_bands_101 : decode cX4_bands 101 = .ok (.goto (-94), 3) := by decide +kernel
theorem dX4_bands_104 : decode cX4_bands 104 = .ok (.lload_n 2, 1) := by decide +kernel
theorem dX4_bands_105 : decode cX4_bands 105 = .ok (.iload_n 1, 1) := by decide +kernel
theorem dX4_bands_106 : decode cX4_bands 106 = .ok (.invokestatic 109, 3) := by decide +kernel
theorem dX4_bands_109 : decode cX4_bands 109 = .ok (.dreturn, 1) := by decide +kernel
set_option maxRecDepth 20000 in
theorem ggX4_signs_X1_findIn : GoodIn wsX4_signs wsX1_findIn := goodIn_r _ [9, 10, 11, 12, 13, 8, 14, 15, 16, 17, 18, 19, 20, 21, 22, 23, 24, 25, 26, 27, 28, 29, 30, 31, 32, 33, 34, 62, 63, 64, 65, 66, 67, 68, 69, 70] (by decide +kernel) (by decide +kernel)
set_option maxRecDepth 20000 in
theorem gX4_signs_X1_findIn : GoodIn wsX4_signs (wsV RX4 152 RX1 yX1_findIn wsX1_findIn) := goodIn_app (goodIn_of _ (by decide +kernel)) ggX4_signs_X1_findIn
set_option maxRecDepth 20000 in
theorem ggX4_signs_X1_count : GoodIn wsX4_signs wsX1_count := goodIn_r _ [38, 10, 62, 63, 64, 65, 66, 67, 68] (by decide +kernel) (by decide +kernel)
set_option maxRecDepth 20000 in
theorem gX4_signs_X1_count : GoodIn wsX4_signs (wsV RX4 156 RX1 yX1_count wsX1_count) := goodIn_app (goodIn_of _ (by decide +kernel)) ggX4_signs_X1_count
set_option maxRecDepth 20000 in
theorem ggX4_signs_X1_countAlsoIn : GoodIn wsX4_signs wsX1_countAlsoIn := goodIn_r _ [42, 10, 43, 44, 45, 46, 8, 47, 48, 49, 50, 51, 62, 63, 64, 65, 66, 67, 68] (by decide +kernel) (by decide +kernel)
set_option maxRecDepth 20000 in
theorem gX4_signs_X1_countAlsoIn : GoodIn wsX4_signs (wsV RX4 160 RX1 yX1_countAlsoIn wsX1_countAlsoIn) := goodIn_app (goodIn_of _ (by decide +kernel)) ggX4_signs_X1_countAlsoIn
theorem dX4_signs_0 : decode cX4_signs 0 = .ok (.aload_n 0, 1) := by decide +kernel
theorem dX4_signs_1 : decode cX4_signs 1 = .ok (.getfield 51, 3) := by decide +kernel
theorem dX4_signs_4 : decode cX4_signs 4 = .ok (.aload_n 0, 1) := by decide +kernel
theorem dX4_signs_5 : decode cX4_signs 5 = .ok (.getfield 34, 3) := by decide +kernel
theorem dX4_signs_8 : decode cX4_signs 8 = .ok (.invokevirtual 152, 3) := by decide +kernel
theorem dX4_signs_11 : decode cX4_signs 11 = .ok (.iload_n 1, 1) := by decide +kernel
theorem dX4_signs_12 : decode cX4_signs 12 = .ok (.ifCond .eq 11, 3) := by decide +kernel
theorem dX4_signs_15 : decode cX4_signs 15 = .ok (.aload_n 0, 1) := by decide +kernel
theorem dX4_signs_16 : decode cX4_signs 16 = .ok (.getfield 51, 3) := by decide +kernel
theorem dX4_signs_19 : decode cX4_signs 19 = .ok (.invokevirtual 156, 3) := by decide +kernel
theorem dX4_signs_22 : decode cX4_signs 22 = .ok (.ireturn, 1) := by decide +kernel
theorem dX4_signs_23 : decode cX4_signs 23 = .ok (.aload_n 0, 1) := by decide +kernel
theorem dX4_signs_24 : decode cX4_signs 24 = .ok (.getfield 55, 3) := by decide +kernel
theorem dX4_signs_27 : decode cX4_signs 27 = .ok (.aload_n 0, 1) := by decide +kernel
theorem dX4_signs_28 : decode cX4_signs 28 = .ok (.getfield 38, 3) := by decide +kernel
theorem dX4_signs_31 : decode cX4_signs 31 = .ok (.invokevirtual 152, 3) := by decide +kernel
theorem dX4_signs_34 : decode cX4_signs 34 = .ok (.aload_n 0, 1) := by decide +kernel
theorem dX4_signs_35 : decode cX4_signs 35 = .ok (.getfield 51, 3) := by decide +kernel
theorem dX4_signs_38 : decode cX4_signs 38 = .ok (.aload_n 0, 1) := by decide +kernel
theorem dX4_signs_39 : decode cX4_signs 39 = .ok (.getfield 55, 3) := by decide +kernel
theorem dX4_signs_42 : decode cX4_signs 42 = .ok (.invokevirtual 160, 3) := by decide +kernel
theorem dX4_signs_45 : decode cX4_signs 45 = .ok (.ireturn, 1) := by decide +kernel
set_option maxRecDepth 20000 in
theorem ggX4_equal_X2_sameAs : GoodIn wsX4_equal wsX2_sameAs := goodIn_r _ [7, 8, 9, 10, 6, 11, 12, 13, 14, 15, 16, 17, 18, 19, 30, 31] (by decide +kernel) (by decide +kernel)
set_option maxRecDepth 20000 in
theorem gX4_equal_X2_sameAs : GoodIn wsX4_equal (wsV RX4 164 RX2 yX2_sameAs wsX2_sameAs) := goodIn_app (goodIn_of _ (by decide +kernel)) ggX4_equal_X2_sameAs
theorem dX4_equal_0 : decode cX4_equal 0 = .ok (.aload_n 0, 1) := by decide +kernel
theorem dX4_equal_1 : decode cX4_equal 1 = .ok (.getfield 34, 3) := by decide +kernel
theorem dX4_equal_4 : decode cX4_equal 4 = .ok (.aload_n 0, 1) := by decide +kernel
theorem dX4_equal_5 : decode cX4_equal 5 = .ok (.getfield 38, 3) := by decide +kernel
theorem dX4_equal_8 : decode cX4_equal 8 = .ok (.invokevirtual 164, 3) := by decide +kernel
theorem dX4_equal_11 : decode cX4_equal 11 = .ok (.ireturn, 1) := by decide +kernel
set_option maxRecDepth 20000 in
theorem ggX4_note_X4_corpusOf : GoodIn wsX4_note wsX4_corpusOf := goodIn_r _ [13, 14, 23, 24, 25, 26, 27, 28, 29, 30, 31, 32] (by decide +kernel) (by decide +kernel)
set_option maxRecDepth 20000 in
theorem gX4_note_X4_corpusOf : GoodIn wsX4_note (wsV RX4 168 RX4 yX4_corpusOf wsX4_corpusOf) := goodIn_app (goodIn_of _ (by decide +kernel)) ggX4_note_X4_corpusOf
set_option maxRecDepth 20000 in
theorem ggX4_note_X0_add : GoodIn wsX4_note wsX0_add := goodIn_r _ [19, 20, 21, 22, 33, 34, 35] (by decide +kernel) (by decide +kernel)
set_option maxRecDepth 20000 in
theorem gX4_note_X0_add : GoodIn wsX4_note (wsV RX4 180 RX0 yX0_add wsX0_add) := goodIn_app (goodIn_of _ (by decide +kernel)) ggX4_note_X0_add
theorem dX4_note_0 : decode cX4_note 0 = .ok (.aload_n 0, 1) := by decide +kernel
theorem dX4_note_1 : decode cX4_note 1 = .ok (.iload_n 1, 1) := by decide +kernel
theorem dX4_note_2 : decode cX4_note 2 = .ok (.invokevirtual 168, 3) := by decide +kernel
theorem dX4_note_5 : decode cX4_note 5 = .ok (.astore 4, 2) := by decide +kernel
theorem dX4_note_7 : decode cX4_note 7 = .ok (.aload 4, 2) := by decide +kernel
theorem dX4_note_9 : decode cX4_note 9 = .ok (.ifnonnull 13, 3) := by decide +kernel
theorem dX4_note_12 : decode cX4_note 12 = .ok (.new 73, 3) := by decide +kernel
theorem dX4_note_15 : decode cX4_note 15 = .ok (.dup, 1) := by decide +kernel
theorem dX4_note_16 : decode cX4_note 16 = .ok (.ldc 172, 2) := by decide +kernel
theorem dX4_note_18 : decode cX4_note 18 = .ok (.invokespecial 77, 3) := by decide +kernel
theorem dX4_note_21 : decode cX4_note 21 = .ok (.athrow, 1) := by decide +kernel
theorem dX4_note_22 : decode cX4_note 22 = .ok (.dload_n 2, 1) := by decide +kernel
theorem dX4_note_23 : decode cX4_note 23 = .ok (.ldc2_w 174, 3) := by decide +kernel
theorem dX4_note_26 : decode cX4_note 26 = .ok (.dcmp .l, 1) := by decide +kernel
theorem dX4_note_27 : decode cX4_note 27 = .ok (.ifCond .lt 15, 3) := by decide +kernel
theorem dX4_note_30 : decode cX4_note 30 = .ok (.dload_n 2, 1) := by decide +kernel
theorem dX4_note_31 : decode cX4_note 31 = .ok (.ldc2_w 176, 3) := by decide +kernel
theorem dX4_note_34 : decode cX4_note 34 = .ok (.dcmp .g, 1) := by decide +kernel
theorem dX4_note_35 : decode cX4_note 35 = .ok (.ifCond .gt 7, 3) := by decide +kernel
theorem dX4_note_38 : decode cX4_note 38 = .ok (.iconst 1, 1) := by decide +kernel
theorem dX4_note_39 : decode cX4_note 39 = .ok (.goto 4, 3) := by decide +kernel
theorem dX4_note_42 : decode cX4_note 42 = .ok (.iconst 0, 1) := by decide +kernel
theorem dX4_note_43 : decode cX4_note 43 = .ok (.istore 5, 2) := by decide +kernel
theorem dX4_note_45 : decode cX4_note 45 = .ok (.iload 5, 2) := by decide +kernel
theorem dX4_note_47 : decode cX4_note 47 = .ok (.ifCond .ne 13, 3) := by decide +kernel
theorem dX4_note_50 : decode cX4_note 50 = .ok (.new 80, 3) := by decide +kernel
theorem dX4_note_53 : decode cX4_note 53 = .ok (.dup, 1) := by decide +kernel
theorem dX4_note_54 : decode cX4_note 54 = .ok (.ldc 178, 2) := by decide +kernel
theorem dX4_note_56 : decode cX4_note 56 = .ok (.invokespecial 84, 3) := by decide +kernel
theorem dX4_note_59 : decode cX4_note 59 = .ok (.athrow, 1) := by decide +kernel
theorem dX4_note_60 : decode cX4_note 60 = .ok (.aload 4, 2) := by decide +kernel
theorem dX4_note_62 : decode cX4_note 62 = .ok (.dload_n 2, 1) := by decide +kernel
theorem dX4_note_63 : decode cX4_note 63 = .ok (.dconst 0, 1) := by decide +kernel
theorem dX4_note_64 : decode cX4_note 64 = .ok (.dcmp .l, 1) := by decide +kernel
theorem dX4_note_65 : decode cX4_note 65 = .ok (.ifCond .ne 7, 3) := by decide +kernel
theorem dX4_note_68 : decode cX4_note 68 = .ok (.dconst 0, 1) := by decide +kernel
theorem dX4_note_69 : decode cX4_note 69 = .ok (.goto 4, 3) := by decide +kernel
theorem dX4_note_72 : decode cX4_note 72 = .ok (.dload_n 2, 1) := by decide +kernel
theorem dX4_note_73 : decode cX4_note 73 = .ok (.invokevirtual 180, 3) := by decide +kernel
theorem dX4_note_76 : decode cX4_note 76 = .ok (.istore 6, 2) := by decide +kernel
theorem dX4_note_78 : decode cX4_note 78 = .ok (.iload 6, 2) := by decide +kernel
theorem dX4_note_80 : decode cX4_note 80 = .ok (.iconst (-1), 1) := by decide +kernel
theorem dX4_note_81 : decode cX4_note 81 = .ok (.if_icmp .ne 13, 3) := by decide +kernel
theorem dX4_note_84 : decode cX4_note 84 = .ok (.new 184, 3) := by decide +kernel
theorem dX4_note_87 : decode cX4_note 87 = .ok (.dup, 1) := by decide +kernel
theorem dX4_note_88 : decode cX4_note 88 = .ok (.ldc 186, 2) := by decide +kernel
theorem dX4_note_90 : decode cX4_note 90 = .ok (.invokespecial 188, 3) := by decide +kernel
theorem dX4_note_93 : decode cX4_note 93 = .ok (.athrow, 1) := by decide +kernel
theorem dX4_note_94 : decode cX4_note 94 = .ok (.iload 6, 2) := by decide +kernel
theorem dX4_note_96 : decode cX4_note 96 = .ok (.ireturn, 1) := by decide +kernel
set_option maxRecDepth 20000 in
theorem ggX4_mean_X4_corpusOf : GoodIn wsX4_mean wsX4_corpusOf := goodIn_r _ [9, 10, 22, 23, 24, 25, 26, 27, 28, 29, 30, 31] (by decide +kernel) (by decide +kernel)
set_option maxRecDepth 20000 in
theorem gX4_mean_X4_corpusOf : GoodIn wsX4_mean (wsV RX4 168 RX4 yX4_corpusOf wsX4_corpusOf) := goodIn_app (goodIn_of _ (by decide +kernel)) ggX4_mean_X4_corpusOf
set_option maxRecDepth 20000 in
theorem ggX4_mean_X0_size : GoodIn wsX4_mean wsX0_size := goodIn_r _ [15, 16, 32, 33, 34] (by decide +kernel) (by decide +kernel)
set_option maxRecDepth 20000 in
theorem gX4_mean_X0_size : GoodIn wsX4_mean (wsV RX4 189 RX0 yX0_size wsX0_size) := goodIn_app (goodIn_of _ (by decide +kernel)) ggX4_mean_X0_size
set_option maxRecDepth 20000 in
theorem ggX4_mean_X0_average : GoodIn wsX4_mean wsX0_average := goodIn_r _ [20, 16, 21, 32, 33, 34] (by decide +kernel) (by decide +kernel)
set_option maxRecDepth 20000 in
theorem gX4_mean_X0_average : GoodIn wsX4_mean (wsV RX4 194 RX0 yX0_average wsX0_average) := goodIn_app (goodIn_of _ (by decide +kernel)) ggX4_mean_X0_average
theorem dX4_mean_0 : decode cX4_mean 0 = .ok (.aload_n 0, 1) := by decide +kernel
theorem dX4_mean_1 : decode cX4_mean 1 = .ok (.iload_n 1, 1) := by decide +kernel
theorem dX4_mean_2 : decode cX4_mean 2 = .ok (.invokevirtual 168, 3) := by decide +kernel
theorem dX4_mean_5 : decode cX4_mean 5 = .ok (.astore_n 2, 1) := by decide +kernel
theorem dX4_mean_6 : decode cX4_mean 6 = .ok (.aload_n 2, 1) := by decide +kernel
theorem dX4_mean_7 : decode cX4_mean 7 = .ok (.ifnonnull 13, 3) := by decide +kernel
theorem dX4_mean_10 : decode cX4_mean 10 = .ok (.new 73, 3) := by decide +kernel
theorem dX4_mean_13 : decode cX4_mean 13 = .ok (.dup, 1) := by decide +kernel
theorem dX4_mean_14 : decode cX4_mean 14 = .ok (.ldc 172, 2) := by decide +kernel
theorem dX4_mean_16 : decode cX4_mean 16 = .ok (.invokespecial 77, 3) := by decide +kernel
theorem dX4_mean_19 : decode cX4_mean 19 = .ok (.athrow, 1) := by decide +kernel
theorem dX4_mean_20 : decode cX4_mean 20 = .ok (.aload_n 2, 1) := by decide +kernel
theorem dX4_mean_21 : decode cX4_mean 21 = .ok (.invokevirtual 189, 3) := by decide +kernel
theorem dX4_mean_24 : decode cX4_mean 24 = .ok (.ifCond .ne 13, 3) := by decide +kernel
theorem dX4_mean_27 : decode cX4_mean 27 = .ok (.new 124, 3) := by decide +kernel
theorem dX4_mean_30 : decode cX4_mean 30 = .ok (.dup, 1) := by decide +kernel
theorem dX4_mean_31 : decode cX4_mean 31 = .ok (.ldc 192, 2) := by decide +kernel
theorem dX4_mean_33 : decode cX4_mean 33 = .ok (.invokespecial 128, 3) := by decide +kernel
theorem dX4_mean_36 : decode cX4_mean 36 = .ok (.athrow, 1) := by decide +kernel
theorem dX4_mean_37 : decode cX4_mean 37 = .ok (.aload_n 2, 1) := by decide +kernel
theorem dX4_mean_38 : decode cX4_mean 38 = .ok (.invokevirtual 194, 3) := by decide +kernel
theorem dX4_mean_41 : decode cX4_mean 41 = .ok (.dreturn, 1) := by decide +kernel
set_option maxRecDepth 20000 in
theorem ggX4_ranked_X4_corpusOf : GoodIn wsX4_ranked wsX4_corpusOf := goodIn_r _ [7, 8, 20, 21, 22, 23, 24, 25, 26, 27, 28, 29] (by decide +kernel) (by decide +kernel)
set_option maxRecDepth 20000 in
theorem gX4_ranked_X4_corpusOf : GoodIn wsX4_ranked (wsV RX4 168 RX4 yX4_corpusOf wsX4_corpusOf) := goodIn_app (goodIn_of _ (by decide +kernel)) ggX4_ranked_X4_corpusOf
set_option maxRecDepth 20000 in
theorem ggX4_ranked_X0_size : GoodIn wsX4_ranked wsX0_size := goodIn_r _ [13, 14, 30, 31, 32] (by decide +kernel) (by decide +kernel)
set_option maxRecDepth 20000 in
theorem gX4_ranked_X0_size : GoodIn wsX4_ranked (wsV RX4 189 RX0 yX0_size wsX0_size) := goodIn_app (goodIn_of _ (by decide +kernel)) ggX4_ranked_X0_size
set_option maxRecDepth 20000 in
theorem ggX4_ranked_X0_atRank : GoodIn wsX4_ranked wsX0_atRank := goodIn_r _ [18, 14, 19, 30, 31, 32] (by decide +kernel) (by decide +kernel)
set_option maxRecDepth 20000 in
theorem gX4_ranked_X0_atRank : GoodIn wsX4_ranked (wsV RX4 199 RX0 yX0_atRank wsX0_atRank) := goodIn_app (goodIn_of _ (by decide +kernel)) ggX4_ranked_X0_atRank
theorem dX4_ranked_0 : decode cX4_ranked 0 = .ok (.aload_n 0, 1) := by decide +kernel
theorem dX4_ranked_1 : decode cX4_ranked 1 = .ok (.iload_n 1, 1) := by decide +kernel
theorem dX4_ranked_2 : decode cX4_ranked 2 = .ok (.invokevirtual 168, 3) := by decide +kernel
theorem dX4_ranked_5 : decode cX4_ranked 5 = .ok (.astore_n 3, 1) := by decide +kernel
theorem dX4_ranked_6 : decode cX4_ranked 6 = .ok (.aload_n 3, 1) := by decide +kernel
theorem dX4_ranked_7 : decode cX4_ranked 7 = .ok (.ifnull 15, 3) := by decide +kernel
theorem dX4_ranked_10 : decode cX4_ranked 10 = .ok (.iload_n 2, 1) := by decide +kernel
theorem dX4_ranked_11 : decode cX4_ranked 11 = .ok (.ifCond .lt 11, 3) := by decide +kernel
theorem dX4_ranked_14 : decode cX4_ranked 14 = .ok (.iload_n 2, 1) := by decide +kernel
theorem dX4_ranked_15 : decode cX4_ranked 15 = .ok (.aload_n 3, 1) := by decide +kernel
theorem dX4_ranked_16 : decode cX4_ranked 16 = .ok (.invokevirtual 189, 3) := by decide +kernel
theorem dX4_ranked_19 : decode cX4_ranked 19 = .ok (.if_icmp .lt 13, 3) := by decide +kernel
theorem dX4_ranked_22 : decode cX4_ranked 22 = .ok (.new 73, 3) := by decide +kernel
theorem dX4_ranked_25 : decode cX4_ranked 25 = .ok (.dup, 1) := by decide +kernel
theorem dX4_ranked_26 : decode cX4_ranked 26 = .ok (.ldc 197, 2) := by decide +kernel
theorem dX4_ranked_28 : decode cX4_ranked 28 = .ok (.invokespecial 77, 3) := by decide +kernel
theorem dX4_ranked_31 : decode cX4_ranked 31 = .ok (.athrow, 1) := by decide +kernel
theorem dX4_ranked_32 : decode cX4_ranked 32 = .ok (.aload_n 3, 1) := by decide +kernel
theorem dX4_ranked_33 : decode cX4_ranked 33 = .ok (.iload_n 2, 1) := by decide +kernel
theorem dX4_ranked_34 : decode cX4_ranked 34 = .ok (.invokevirtual 199, 3) := by decide +kernel
theorem dX4_ranked_37 : decode cX4_ranked 37 = .ok (.dreturn, 1) := by decide +kernel
set_option maxRecDepth 20000 in
theorem ggX4_wins_X4_corpusOf : GoodIn wsX4_wins wsX4_corpusOf := goodIn_r _ [7, 8, 20, 21, 22, 23, 24, 25, 26, 27, 28, 29] (by decide +kernel) (by decide +kernel)
set_option maxRecDepth 20000 in
theorem gX4_wins_X4_corpusOf : GoodIn wsX4_wins (wsV RX4 168 RX4 yX4_corpusOf wsX4_corpusOf) := goodIn_app (goodIn_of _ (by decide +kernel)) ggX4_wins_X4_corpusOf
set_option maxRecDepth 20000 in
theorem ggX4_wins_X0_winsAgainst : GoodIn wsX4_wins wsX0_winsAgainst := goodIn_r _ [13, 14, 15, 16, 17, 18, 19, 30, 31, 32] (by decide +kernel) (by decide +kernel)
set_option maxRecDepth 20000 in
theorem gX4_wins_X0_winsAgainst : GoodIn wsX4_wins (wsV RX4 203 RX0 yX0_winsAgainst wsX0_winsAgainst) := goodIn_app (goodIn_of _ (by decide +kernel)) ggX4_wins_X0_winsAgainst
theorem dX4_wins_0 : decode cX4_wins 0 = .ok (.aload_n 0, 1) := by decide +kernel
theorem dX4_wins_1 : decode cX4_wins 1 = .ok (.iload_n 1, 1) := by decide +kernel
theorem dX4_wins_2 : decode cX4_wins 2 = .ok (.invokevirtual 168, 3) := by decide +kernel
theorem dX4_wins_5 : decode cX4_wins 5 = .ok (.astore_n 3, 1) := by decide +kernel
theorem dX4_wins_6 : decode cX4_wins 6 = .ok (.aload_n 0, 1) := by decide +kernel
theorem dX4_wins_7 : decode cX4_wins 7 = .ok (.iload_n 2, 1) := by decide +kernel
theorem dX4_wins_8 : decode cX4_wins 8 = .ok (.invokevirtual 168, 3) := by decide +kernel
theorem dX4_wins_11 : decode cX4_wins 11 = .ok (.astore 4, 2) := by decide +kernel
theorem dX4_wins_13 : decode cX4_wins 13 = .ok (.aload_n 3, 1) := by decide +kernel
theorem dX4_wins_14 : decode cX4_wins 14 = .ok (.ifnull 8, 3) := by decide +kernel
theorem dX4_wins_17 : decode cX4_wins 17 = .ok (.aload 4, 2) := by decide +kernel
theorem dX4_wins_19 : decode cX4_wins 19 = .ok (.ifnonnull 13, 3) := by decide +kernel
theorem dX4_wins_22 : decode cX4_wins 22 = .ok (.new 73, 3) := by decide +kernel
theorem dX4_wins_25 : decode cX4_wins 25 = .ok (.dup, 1) := by decide +kernel
theorem dX4_wins_26 : decode cX4_wins 26 = .ok (.ldc 172, 2) := by decide +kernel
theorem dX4_wins_28 : decode cX4_wins 28 = .ok (.invokespecial 77, 3) := by decide +kernel
theorem dX4_wins_31 : decode cX4_wins 31 = .ok (.athrow, 1) := by decide +kernel
theorem dX4_wins_32 : decode cX4_wins 32 = .ok (.aload_n 3, 1) := by decide +kernel
theorem dX4_wins_33 : decode cX4_wins 33 = .ok (.aload 4, 2) := by decide +kernel
theorem dX4_wins_35 : decode cX4_wins 35 = .ok (.invokevirtual 203, 3) := by decide +kernel
theorem dX4_wins_38 : decode cX4_wins 38 = .ok (.ireturn, 1) := by decide +kernel
set_option maxRecDepth 20000 in
theorem ggX4_told_X1_findIn : GoodIn wsX4_told wsX1_findIn := goodIn_r _ [11, 12, 13, 14, 15, 10, 16, 17, 18, 19, 20, 21, 22, 23, 24, 25, 26, 27, 28, 29, 30, 31, 32, 33, 34, 35, 36, 51, 52, 53, 54, 55, 56, 57, 58, 59] (by decide +kernel) (by decide +kernel)
set_option maxRecDepth 20000 in
theorem gX4_told_X1_findIn : GoodIn wsX4_told (wsV RX4 152 RX1 yX1_findIn wsX1_findIn) := goodIn_app (goodIn_of _ (by decide +kernel)) ggX4_told_X1_findIn
set_option maxRecDepth 20000 in
theorem ggX4_told_X1_count : GoodIn wsX4_told wsX1_count := goodIn_r _ [40, 12, 51, 52, 53, 54, 55, 56, 57] (by decide +kernel) (by decide +kernel)
set_option maxRecDepth 20000 in
theorem gX4_told_X1_count : GoodIn wsX4_told (wsV RX4 156 RX1 yX1_count wsX1_count) := goodIn_app (goodIn_of _ (by decide +kernel)) ggX4_told_X1_count
theorem dX4_told_0 : decode cX4_told 0 = .ok (.iload_n 1, 1) := by decide +kernel
theorem dX4_told_1 : decode cX4_told 1 = .ok (.tableswitch 74 0 4 #[35, 40, 45, 50, 55], 35) := by decide +kernel
theorem dX4_told_36 : decode cX4_told 36 = .ok (.aload_n 0, 1) := by decide +kernel
theorem dX4_told_37 : decode cX4_told 37 = .ok (.getfield 13, 3) := by decide +kernel
theorem dX4_told_40 : decode cX4_told 40 = .ok (.ireturn, 1) := by decide +kernel
theorem dX4_told_41 : decode cX4_told 41 = .ok (.aload_n 0, 1) := by decide +kernel
theorem dX4_told_42 : decode cX4_told 42 = .ok (.getfield 17, 3) := by decide +kernel
theorem dX4_told_45 : decode cX4_told 45 = .ok (.ireturn, 1) := by decide +kernel
theorem dX4_told_46 : decode cX4_told 46 = .ok (.aload_n 0, 1) := by decide +kernel
theorem dX4_told_47 : decode cX4_told 47 = .ok (.getfield 20, 3) := by decide +kernel
theorem dX4_told_50 : decode cX4_told 50 = .ok (.ireturn, 1) := by decide +kernel
theorem dX4_told_51 : decode cX4_told 51 = .ok (.aload_n 0, 1) := by decide +kernel
theorem dX4_told_52 : decode cX4_told 52 = .ok (.getfield 26, 3) := by decide +kernel
theorem dX4_told_55 : decode cX4_told 55 = .ok (.ireturn, 1) := by decide +kernel
theorem dX4_told_56 : decode cX4_told 56 = .ok (.aload_n 0, 1) := by decide +kernel
theorem dX4_told_57 : decode cX4_told 57 = .ok (.getfield 55, 3) := by decide +kernel
theorem dX4_told_60 : decode cX4_told 60 = .ok (.aload_n 0, 1) := by decide +kernel
theorem dX4_told_61 : decode cX4_told 61 = .ok (.getfield 38, 3) := by decide +kernel
theorem dX4_told_64 : decode cX4_told 64 = .ok (.invokevirtual 152, 3) := by decide +kernel
theorem dX4_told_67 : decode cX4_told 67 = .ok (.aload_n 0, 1) := by decide +kernel
theorem dX4_told_68 : decode cX4_told 68 = .ok (.getfield 55, 3) := by decide +kernel
theorem dX4_told_71 : decode cX4_told 71 = .ok (.invokevirtual 156, 3) := by decide +kernel
theorem dX4_told_74 : decode cX4_told 74 = .ok (.ireturn, 1) := by decide +kernel
theorem dX4_told_75 : decode cX4_told 75 = .ok (.iconst (-1), 1) := by decide +kernel
theorem dX4_told_76 : decode cX4_told 76 = .ok (.ireturn, 1) := by decide +kernel
set_option maxRecDepth 20000 in
theorem ggX4_clear_X2_fill : GoodIn wsX4_clear wsX2_fill := goodIn_r _ [7, 8, 31, 32] (by decide +kernel) (by decide +kernel)
set_option maxRecDepth 20000 in
theorem gX4_clear_X2_fill : GoodIn wsX4_clear (wsV RX4 96 RX2 yX2_fill wsX2_fill) := goodIn_app (goodIn_of _ (by decide +kernel)) ggX4_clear_X2_fill
set_option maxRecDepth 20000 in
theorem ggX4_clear_X4_corpusOf : GoodIn wsX4_clear wsX4_corpusOf := goodIn_r _ [13, 14, 21, 22, 23, 24, 25, 26, 27, 28, 29, 30] (by decide +kernel) (by decide +kernel)
set_option maxRecDepth 20000 in
theorem gX4_clear_X4_corpusOf : GoodIn wsX4_clear (wsV RX4 168 RX4 yX4_corpusOf wsX4_corpusOf) := goodIn_app (goodIn_of _ (by decide +kernel)) ggX4_clear_X4_corpusOf
set_option maxRecDepth 20000 in
theorem ggX4_clear_X0_empty : GoodIn wsX4_clear wsX0_empty := goodIn_r _ [19, 20, 33, 34, 35] (by decide +kernel) (by decide +kernel)
set_option maxRecDepth 20000 in
theorem gX4_clear_X0_empty : GoodIn wsX4_clear (wsV RX4 207 RX0 yX0_empty wsX0_empty) := goodIn_app (goodIn_of _ (by decide +kernel)) ggX4_clear_X0_empty
theorem dX4_clear_0 : decode cX4_clear 0 = .ok (.aload_n 0, 1) := by decide +kernel
theorem dX4_clear_1 : decode cX4_clear 1 = .ok (.getfield 34, 3) := by decide +kernel
theorem dX4_clear_4 : decode cX4_clear 4 = .ok (.iconst 0, 1) := by decide +kernel
theorem dX4_clear_5 : decode cX4_clear 5 = .ok (.iconst 0, 1) := by decide +kernel
theorem dX4_clear_6 : decode cX4_clear 6 = .ok (.invokevirtual 96, 3) := by decide +kernel
theorem dX4_clear_9 : decode cX4_clear 9 = .ok (.pop, 1) := by decide +kernel
theorem dX4_clear_10 : decode cX4_clear 10 = .ok (.aload_n 0, 1) := by decide +kernel
theorem dX4_clear_11 : decode cX4_clear 11 = .ok (.getfield 38, 3) := by decide +kernel
theorem dX4_clear_14 : decode cX4_clear 14 = .ok (.iconst 0, 1) := by decide +kernel
theorem dX4_clear_15 : decode cX4_clear 15 = .ok (.iconst 0, 1) := by decide +kernel
theorem dX4_clear_16 : decode cX4_clear 16 = .ok (.invokevirtual 96, 3) := by decide +kernel
theorem dX4_clear_19 : decode cX4_clear 19 = .ok (.pop, 1) := by decide +kernel
theorem dX4_clear_20 : decode cX4_clear 20 = .ok (.iconst 0, 1) := by decide +kernel
theorem dX4_clear_21 : decode cX4_clear 21 = .ok (.istore_n 1, 1) := by decide +kernel
theorem dX4_clear_22 : decode cX4_clear 22 = .ok (.iload_n 1, 1) := by decide +kernel
theorem dX4_clear_23 : decode cX4_clear 23 = .ok (.bipush 8, 2) := by decide +kernel
theorem dX4_clear_25 : decode cX4_clear 25 = .ok (.if_icmp .ge 23, 3) := by decide +kernel
theorem dX4_clear_28 : decode cX4_clear 28 = .ok (.aload_n 0, 1) := by decide +kernel
theorem dX4_clear_29 : decode cX4_clear 29 = .ok (.iload_n 1, 1) := by decide +kernel
theorem dX4_clear_30 : decode cX4_clear 30 = .ok (.invokevirtual 168, 3) := by decide +kernel
theorem dX4_clear_33 : decode cX4_clear 33 = .ok (.astore_n 2, 1) := by decide +kernel
theorem dX4_clear_34 : decode cX4_clear 34 = .ok (.aload_n 2, 1) := by decide +kernel
theorem dX4_clear_35 : decode cX4_clear 35 = .ok (.ifnull 7, 3) := by decide +kernel
theorem dX4_clear_38 : decode cX4_clear 38 = .ok (.aload_n 2, 1) := by decide +kernel
theorem dX4_clear_39 : decode cX4_clear 39 = .ok (.invokevirtual 207, 3) := by decide +kernel
theorem dX4_clear_42 : decode cX4_clear 42 = .ok (.iinc 1 1, 3) := by decide +kernel
theorem dX4_clear_45 : decode cX4_clear 45 = .ok (.goto (-23), 3) := by decide +kernel
theorem dX4_clear_48 : decode cX4_clear 48 = .ok (.return_, 1) := by decide +kernel
theorem dX4_nearest_0 : decode cX4_nearest 0 = .ok (.iconst 1, 1) := by decide +kernel
theorem dX4_nearest_1 : decode cX4_nearest 1 = .ok (.iload_n 1, 1) := by decide +kernel
theorem dX4_nearest_2 : decode cX4_nearest 2 = .ok (.iload_n 0, 1) := by decide +kernel
theorem dX4_nearest_3 : decode cX4_nearest 3 = .ok (.invokestatic 210, 3) := by decide +kernel
theorem dX4_nearest_6 : decode cX4_nearest 6 = .ok (.invokestatic 215, 3) := by decide +kernel
theorem dX4_nearest_9 : decode cX4_nearest 9 = .ok (.ireturn, 1) := by decide +kernel
theorem dX4_scalesOf_0 : decode cX4_scalesOf 0 = .ok (.iconst 0, 1) := by decide +kernel
theorem dX4_scalesOf_1 : decode cX4_scalesOf 1 = .ok (.istore_n 2, 1) := by decide +kernel
theorem dX4_scalesOf_2 : decode cX4_scalesOf 2 = .ok (.iload_n 0, 1) := by decide +kernel
theorem dX4_scalesOf_3 : decode cX4_scalesOf 3 = .ok (.iload_n 1, 1) := by decide +kernel
theorem dX4_scalesOf_4 : decode cX4_scalesOf 4 = .ok (.invokestatic 210, 3) := by decide +kernel
theorem dX4_scalesOf_7 : decode cX4_scalesOf 7 = .ok (.istore_n 3, 1) := by decide +kernel
theorem dX4_scalesOf_8 : decode cX4_scalesOf 8 = .ok (.iconst 0, 1) := by decide +kernel
theorem dX4_scalesOf_9 : decode cX4_scalesOf 9 = .ok (.istore 4, 2) := by decide +kernel
theorem dX4_scalesOf_11 : decode cX4_scalesOf 11 = .ok (.iload 4, 2) := by decide +kernel
theorem dX4_scalesOf_13 : decode cX4_scalesOf 13 = .ok (.iconst 4, 1) := by decide +kernel
theorem dX4_scalesOf_14 : decode cX4_scalesOf 14 = .ok (.if_icmp .gt 21, 3) := by decide +kernel
theorem dX4_scalesOf_17 : decode cX4_scalesOf 17 = .ok (.iload_n 3, 1) := by decide +kernel
theorem dX4_scalesOf_18 : decode cX4_scalesOf 18 = .ok (.iconst 5, 1) := by decide +kernel
theorem dX4_scalesOf_19 : decode cX4_scalesOf 19 = .ok (.if_icmp .lt 16, 3) := by decide +kernel
theorem dX4_scalesOf_22 : decode cX4_scalesOf 22 = .ok (.iinc 2 1, 3) := by decide +kernel
theorem dX4_scalesOf_25 : decode cX4_scalesOf 25 = .ok (.iload_n 3, 1) := by decide +kernel
theorem dX4_scalesOf_26 : decode cX4_scalesOf 26 = .ok (.iconst 2, 1) := by decide +kernel
theorem dX4_scalesOf_27 : decode cX4_scalesOf 27 = .ok (.idiv, 1) := by decide +kernel
theorem dX4_scalesOf_28 : decode cX4_scalesOf 28 = .ok (.istore_n 3, 1) := by decide +kernel
theorem dX4_scalesOf_29 : decode cX4_scalesOf 29 = .ok (.iinc 4 1, 3) := by decide +kernel
theorem dX4_scalesOf_32 : decode cX4_scalesOf 32 = .ok (.goto (-21), 3) := by decide +kernel
theorem dX4_scalesOf_35 : decode cX4_scalesOf 35 = .ok (.iload_n 2, 1) := by decide +kernel
theorem dX4_scalesOf_36 : decode cX4_scalesOf 36 = .ok (.ireturn, 1) := by decide +kernel
theorem dX4_quotient_0 : decode cX4_quotient 0 = .ok (.iload_n 2, 1) := by decide +kernel
theorem dX4_quotient_1 : decode cX4_quotient 1 = .ok (.ifCond .le 11, 3) := by decide +kernel
theorem dX4_quotient_4 : decode cX4_quotient 4 = .ok (.lload_n 0, 1) := by decide +kernel
theorem dX4_quotient_5 : decode cX4_quotient 5 = .ok (.l2d, 1) := by decide +kernel
theorem dX4_quotient_6 : decode cX4_quotient 6 = .ok (.iload_n 2, 1) := by decide +kernel
theorem dX4_quotient_7 : decode cX4_quotient 7 = .ok (.i2d, 1) := by decide +kernel
theorem dX4_quotient_8 : decode cX4_quotient 8 = .ok (.ddiv, 1) := by decide +kernel
theorem dX4_quotient_9 : decode cX4_quotient 9 = .ok (.goto 4, 3) := by decide +kernel
theorem dX4_quotient_12 : decode cX4_quotient 12 = .ok (.dconst 0, 1) := by decide +kernel
theorem dX4_quotient_13 : decode cX4_quotient 13 = .ok (.dreturn, 1) := by decide +kernel
theorem dX4_pictureOf_0 : decode cX4_pictureOf 0 = .ok (.iload_n 1, 1) := by decide +kernel
theorem dX4_pictureOf_1 : decode cX4_pictureOf 1 = .ok (.ifCond .eq 10, 3) := by decide +kernel
theorem dX4_pictureOf_4 : decode cX4_pictureOf 4 = .ok (.aload_n 0, 1) := by decide +kernel
theorem dX4_pictureOf_5 : decode cX4_pictureOf 5 = .ok (.getfield 34, 3) := by decide +kernel
theorem dX4_pictureOf_8 : decode cX4_pictureOf 8 = .ok (.goto 7, 3) := by decide +kernel
theorem dX4_pictureOf_11 : decode cX4_pictureOf 11 = .ok (.aload_n 0, 1) := by decide +kernel
theorem dX4_pictureOf_12 : decode cX4_pictureOf 12 = .ok (.getfield 38, 3) := by decide +kernel
theorem dX4_pictureOf_15 : decode cX4_pictureOf 15 = .ok (.areturn, 1) := by decide +kernel
theorem dX4_corpusOf_0 : decode cX4_corpusOf 0 = .ok (.iload_n 1, 1) := by decide +kernel
theorem dX4_corpusOf_1 : decode cX4_corpusOf 1 = .ok (.ifCond .lt 21, 3) := by decide +kernel
theorem dX4_corpusOf_4 : decode cX4_corpusOf 4 = .ok (.iload_n 1, 1) := by decide +kernel
theorem dX4_corpusOf_5 : decode cX4_corpusOf 5 = .ok (.aload_n 0, 1) := by decide +kernel
theorem dX4_corpusOf_6 : decode cX4_corpusOf 6 = .ok (.getfield 60, 3) := by decide +kernel
theorem dX4_corpusOf_9 : decode cX4_corpusOf 9 = .ok (.arraylength, 1) := by decide +kernel
theorem dX4_corpusOf_10 : decode cX4_corpusOf 10 = .ok (.if_icmp .ge 12, 3) := by decide +kernel
theorem dX4_corpusOf_13 : decode cX4_corpusOf 13 = .ok (.aload_n 0, 1) := by decide +kernel
theorem dX4_corpusOf_14 : decode cX4_corpusOf 14 = .ok (.getfield 60, 3) := by decide +kernel
theorem dX4_corpusOf_17 : decode cX4_corpusOf 17 = .ok (.iload_n 1, 1) := by decide +kernel
theorem dX4_corpusOf_18 : decode cX4_corpusOf 18 = .ok (.aaload, 1) := by decide +kernel
theorem dX4_corpusOf_19 : decode cX4_corpusOf 19 = .ok (.goto 4, 3) := by decide +kernel
theorem dX4_corpusOf_22 : decode cX4_corpusOf 22 = .ok (.aconst_null, 1) := by decide +kernel
theorem dX4_corpusOf_23 : decode cX4_corpusOf 23 = .ok (.areturn, 1) := by decide +kernel
theorem dX4_hasPlace_0 : decode cX4_hasPlace 0 = .ok (.iload_n 1, 1) := by decide +kernel
theorem dX4_hasPlace_1 : decode cX4_hasPlace 1 = .ok (.ifCond .lt 27, 3) := by decide +kernel
theorem dX4_hasPlace_4 : decode cX4_hasPlace 4 = .ok (.iload_n 1, 1) := by decide +kernel
theorem dX4_hasPlace_5 : decode cX4_hasPlace 5 = .ok (.aload_n 0, 1) := by decide +kernel
theorem dX4_hasPlace_6 : decode cX4_hasPlace 6 = .ok (.getfield 13, 3) := by decide +kernel
theorem dX4_hasPlace_9 : decode cX4_hasPlace 9 = .ok (.if_icmp .ge 19, 3) := by decide +kernel
theorem dX4_hasPlace_12 : decode cX4_hasPlace 12 = .ok (.iload_n 2, 1) := by decide +kernel
theorem dX4_hasPlace_13 : decode cX4_hasPlace 13 = .ok (.ifCond .lt 15, 3) := by decide +kernel
theorem dX4_hasPlace_16 : decode cX4_hasPlace 16 = .ok (.iload_n 2, 1) := by decide +kernel
theorem dX4_hasPlace_17 : decode cX4_hasPlace 17 = .ok (.aload_n 0, 1) := by decide +kernel
theorem dX4_hasPlace_18 : decode cX4_hasPlace 18 = .ok (.getfield 17, 3) := by decide +kernel
theorem dX4_hasPlace_21 : decode cX4_hasPlace 21 = .ok (.if_icmp .ge 7, 3) := by decide +kernel
theorem dX4_hasPlace_24 : decode cX4_hasPlace 24 = .ok (.iconst 1, 1) := by decide +kernel
theorem dX4_hasPlace_25 : decode cX4_hasPlace 25 = .ok (.goto 4, 3) := by decide +kernel
theorem dX4_hasPlace_28 : decode cX4_hasPlace 28 = .ok (.iconst 0, 1) := by decide +kernel
theorem dX4_hasPlace_29 : decode cX4_hasPlace 29 = .ok (.ireturn, 1) := by decide +kernel
theorem dX4_hasChannel_0 : decode cX4_hasChannel 0 = .ok (.iload_n 1, 1) := by decide +kernel
theorem dX4_hasChannel_1 : decode cX4_hasChannel 1 = .ok (.ifCond .lt 15, 3) := by decide +kernel
theorem dX4_hasChannel_4 : decode cX4_hasChannel 4 = .ok (.iload_n 1, 1) := by decide +kernel
theorem dX4_hasChannel_5 : decode cX4_hasChannel 5 = .ok (.aload_n 0, 1) := by decide +kernel
theorem dX4_hasChannel_6 : decode cX4_hasChannel 6 = .ok (.getfield 20, 3) := by decide +kernel
theorem dX4_hasChannel_9 : decode cX4_hasChannel 9 = .ok (.if_icmp .ge 7, 3) := by decide +kernel
theorem dX4_hasChannel_12 : decode cX4_hasChannel 12 = .ok (.iconst 1, 1) := by decide +kernel
theorem dX4_hasChannel_13 : decode cX4_hasChannel 13 = .ok (.goto 4, 3) := by decide +kernel
theorem dX4_hasChannel_16 : decode cX4_hasChannel 16 = .ok (.iconst 0, 1) := by decide +kernel
theorem dX4_hasChannel_17 : decode cX4_hasChannel 17 = .ok (.ireturn, 1) := by decide +kernel
theorem dX4_placeOf_0 : decode cX4_placeOf 0 = .ok (.iload_n 2, 1) := by decide +kernel
theorem dX4_placeOf_1 : decode cX4_placeOf 1 = .ok (.aload_n 0, 1) := by decide +kernel
theorem dX4_placeOf_2 : decode cX4_placeOf 2 = .ok (.getfield 13, 3) := by decide +kernel
theorem dX4_placeOf_5 : decode cX4_placeOf 5 = .ok (.imul, 1) := by decide +kernel
theorem dX4_placeOf_6 : decode cX4_placeOf 6 = .ok (.iload_n 1, 1) := by decide +kernel
theorem dX4_placeOf_7 : decode cX4_placeOf 7 = .ok (.iadd, 1) := by decide +kernel
theorem dX4_placeOf_8 : decode cX4_placeOf 8 = .ok (.ireturn, 1) := by decide +kernel
set_option maxRecDepth 20000 in
theorem ggX4_stepTo_X4_placeOf : GoodIn wsX4_stepTo wsX4_placeOf := goodIn_r _ [9, 10, 18, 19, 20, 21, 22, 23, 24, 25, 26, 27] (by decide +kernel) (by decide +kernel)
set_option maxRecDepth 20000 in
theorem gX4_stepTo_X4_placeOf : GoodIn wsX4_stepTo (wsV RX4 89 RX4 yX4_placeOf wsX4_placeOf) := goodIn_app (goodIn_of _ (by decide +kernel)) ggX4_stepTo_X4_placeOf
set_option maxRecDepth 20000 in
theorem ggX4_stepTo_X2_greyAt : GoodIn wsX4_stepTo wsX2_greyAt := goodIn_r _ [15, 16, 17, 28, 29] (by decide +kernel) (by decide +kernel)
set_option maxRecDepth 20000 in
theorem gX4_stepTo_X2_greyAt : GoodIn wsX4_stepTo (wsV RX4 118 RX2 yX2_greyAt wsX2_greyAt) := goodIn_app (goodIn_of _ (by decide +kernel)) ggX4_stepTo_X2_greyAt
theorem dX4_stepTo_0 : decode cX4_stepTo 0 = .ok (.aload_n 0, 1) := by decide +kernel
theorem dX4_stepTo_1 : decode cX4_stepTo 1 = .ok (.iload_n 2, 1) := by decide +kernel
theorem dX4_stepTo_2 : decode cX4_stepTo 2 = .ok (.iload_n 3, 1) := by decide +kernel
theorem dX4_stepTo_3 : decode cX4_stepTo 3 = .ok (.invokevirtual 89, 3) := by decide +kernel
theorem dX4_stepTo_6 : decode cX4_stepTo 6 = .ok (.istore 4, 2) := by decide +kernel
theorem dX4_stepTo_8 : decode cX4_stepTo 8 = .ok (.aload_n 1, 1) := by decide +kernel
theorem dX4_stepTo_9 : decode cX4_stepTo 9 = .ok (.iload 4, 2) := by decide +kernel
theorem dX4_stepTo_11 : decode cX4_stepTo 11 = .ok (.invokevirtual 118, 3) := by decide +kernel
theorem dX4_stepTo_14 : decode cX4_stepTo 14 = .ok (.aload_n 1, 1) := by decide +kernel
theorem dX4_stepTo_15 : decode cX4_stepTo 15 = .ok (.iload 4, 2) := by decide +kernel
theorem dX4_stepTo_17 : decode cX4_stepTo 17 = .ok (.iconst 1, 1) := by decide +kernel
theorem dX4_stepTo_18 : decode cX4_stepTo 18 = .ok (.isub, 1) := by decide +kernel
theorem dX4_stepTo_19 : decode cX4_stepTo 19 = .ok (.invokevirtual 118, 3) := by decide +kernel
theorem dX4_stepTo_22 : decode cX4_stepTo 22 = .ok (.isub, 1) := by decide +kernel
theorem dX4_stepTo_23 : decode cX4_stepTo 23 = .ok (.invokestatic 218, 3) := by decide +kernel
theorem dX4_stepTo_26 : decode cX4_stepTo 26 = .ok (.ireturn, 1) := by decide +kernel
theorem dX5_init_0 : decode cX5_init 0 = .ok (.aload_n 0, 1) := by decide +kernel
theorem dX5_init_1 : decode cX5_init 1 = .ok (.invokespecial 1, 3) := by decide +kernel
theorem dX5_init_4 : decode cX5_init 4 = .ok (.aload_n 0, 1) := by decide +kernel
theorem dX5_init_5 : decode cX5_init 5 = .ok (.sipush 1728, 3) := by decide +kernel
theorem dX5_init_8 : decode cX5_init 8 = .ok (.newarray .int, 2) := by decide +kernel
theorem dX5_init_10 : decode cX5_init 10 = .ok (.putfield 7, 3) := by decide +kernel
theorem dX5_init_13 : decode cX5_init 13 = .ok (.aload_n 0, 1) := by decide +kernel
theorem dX5_init_14 : decode cX5_init 14 = .ok (.sipush 1728, 3) := by decide +kernel
theorem dX5_init_17 : decode cX5_init 17 = .ok (.newarray .int, 2) := by decide +kernel
theorem dX5_init_19 : decode cX5_init 19 = .ok (.putfield 13, 3) := by decide +kernel
theorem dX5_init_22 : decode cX5_init 22 = .ok (.aload_n 0, 1) := by decide +kernel
theorem dX5_init_23 : decode cX5_init 23 = .ok (.sipush 576, 3) := by decide +kernel
theorem dX5_init_26 : decode cX5_init 26 = .ok (.newarray .int, 2) := by decide +kernel
theorem dX5_init_28 : decode cX5_init 28 = .ok (.putfield 16, 3) := by decide +kernel
theorem dX5_init_31 : decode cX5_init 31 = .ok (.aload_n 0, 1) := by decide +kernel
theorem dX5_init_32 : decode cX5_init 32 = .ok (.sipush 576, 3) := by decide +kernel
theorem dX5_init_35 : decode cX5_init 35 = .ok (.newarray .int, 2) := by decide +kernel
theorem dX5_init_37 : decode cX5_init 37 = .ok (.putfield 19, 3) := by decide +kernel
theorem dX5_init_40 : decode cX5_init 40 = .ok (.aload_n 0, 1) := by decide +kernel
theorem dX5_init_41 : decode cX5_init 41 = .ok (.sipush 576, 3) := by decide +kernel
theorem dX5_init_44 : decode cX5_init 44 = .ok (.newarray .int, 2) := by decide +kernel
theorem dX5_init_46 : decode cX5_init 46 = .ok (.putfield 22, 3) := by decide +kernel
theorem dX5_init_49 : decode cX5_init 49 = .ok (.aload_n 0, 1) := by decide +kernel
theorem dX5_init_50 : decode cX5_init 50 = .ok (.sipush 576, 3) := by decide +kernel
theorem dX5_init_53 : decode cX5_init 53 = .ok (.newarray .int, 2) := by decide +kernel
theorem dX5_init_55 : decode cX5_init 55 = .ok (.putfield 25, 3) := by decide +kernel
theorem dX5_init_58 : decode cX5_init 58 = .ok (.aload_n 0, 1) := by decide +kernel
theorem dX5_init_59 : decode cX5_init 59 = .ok (.bipush 8, 2) := by decide +kernel
theorem dX5_init_61 : decode cX5_init 61 = .ok (.newarray .int, 2) := by decide +kernel
theorem dX5_init_63 : decode cX5_init 63 = .ok (.putfield 28, 3) := by decide +kernel
theorem dX5_init_66 : decode cX5_init 66 = .ok (.aload_n 0, 1) := by decide +kernel
theorem dX5_init_67 : decode cX5_init 67 = .ok (.sipush 1600, 3) := by decide +kernel
theorem dX5_init_70 : decode cX5_init 70 = .ok (.newarray .double, 2) := by decide +kernel
theorem dX5_init_72 : decode cX5_init 72 = .ok (.putfield 31, 3) := by decide +kernel
theorem dX5_init_75 : decode cX5_init 75 = .ok (.aload_n 0, 1) := by decide +kernel
theorem dX5_init_76 : decode cX5_init 76 = .ok (.sipush 200, 3) := by decide +kernel
theorem dX5_init_79 : decode cX5_init 79 = .ok (.newarray .double, 2) := by decide +kernel
theorem dX5_init_81 : decode cX5_init 81 = .ok (.putfield 35, 3) := by decide +kernel
theorem dX5_init_84 : decode cX5_init 84 = .ok (.aload_n 0, 1) := by decide +kernel
theorem dX5_init_85 : decode cX5_init 85 = .ok (.iload_n 1, 1) := by decide +kernel
theorem dX5_init_86 : decode cX5_init 86 = .ok (.iconst 1, 1) := by decide +kernel
theorem dX5_init_87 : decode cX5_init 87 = .ok (.if_icmp .ge 7, 3) := by decide +kernel
theorem dX5_init_90 : decode cX5_init 90 = .ok (.iconst 1, 1) := by decide +kernel
theorem dX5_init_91 : decode cX5_init 91 = .ok (.goto 15, 3) := by decide +kernel
theorem dX5_init_94 : decode cX5_init 94 = .ok (.iload_n 1, 1) := by decide +kernel
theorem dX5_init_95 : decode cX5_init 95 = .ok (.bipush 24, 2) := by decide +kernel
theorem dX5_init_97 : decode cX5_init 97 = .ok (.if_icmp .le 8, 3) := by decide +kernel
theorem dX5_init_100 : decode cX5_init 100 = .ok (.bipush 24, 2) := by decide +kernel
theorem dX5_init_102 : decode cX5_init 102 = .ok (.goto 4, 3) := by decide +kernel
theorem dX5_init_105 : decode cX5_init 105 = .ok (.iload_n 1, 1) := by decide +kernel
theorem dX5_init_106 : decode cX5_init 106 = .ok (.putfield 38, 3) := by decide +kernel
theorem dX5_init_109 : decode cX5_init 109 = .ok (.aload_n 0, 1) := by decide +kernel
theorem dX5_init_110 : decode cX5_init 110 = .ok (.iload_n 2, 1) := by decide +kernel
theorem dX5_init_111 : decode cX5_init 111 = .ok (.iconst 1, 1) := by decide +kernel
theorem dX5_init_112 : decode cX5_init 112 = .ok (.if_icmp .ge 7, 3) := by decide +kernel
theorem dX5_init_115 : decode cX5_init 115 = .ok (.iconst 1, 1) := by decide +kernel
theorem dX5_init_116 : decode cX5_init 116 = .ok (.goto 15, 3) := by decide +kernel
theorem dX5_init_119 : decode cX5_init 119 = .ok (.iload_n 2, 1) := by decide +kernel
theorem dX5_init_120 : decode cX5_init 120 = .ok (.bipush 24, 2) := by decide +kernel
theorem dX5_init_122 : decode cX5_init 122 = .ok (.if_icmp .le 8, 3) := by decide +kernel
theorem dX5_init_125 : decode cX5_init 125 = .ok (.bipush 24, 2) := by decide +kernel
theorem dX5_init_127 : decode cX5_init 127 = .ok (.goto 4, 3) := by decide +kernel
theorem dX5_init_130 : decode cX5_init 130 = .ok (.iload_n 2, 1) := by decide +kernel
theorem dX5_init_131 : decode cX5_init 131 = .ok (.putfield 42, 3) := by decide +kernel
theorem dX5_init_134 : decode cX5_init 134 = .ok (.aload_n 0, 1) := by decide +kernel
theorem dX5_init_135 : decode cX5_init 135 = .ok (.iload_n 3, 1) := by decide +kernel
theorem dX5_init_136 : decode cX5_init 136 = .ok (.iconst 1, 1) := by decide +kernel
theorem dX5_init_137 : decode cX5_init 137 = .ok (.if_icmp .ge 7, 3) := by decide +kernel
theorem dX5_init_140 : decode cX5_init 140 = .ok (.iconst 1, 1) := by decide +kernel
theorem dX5_init_141 : decode cX5_init 141 = .ok (.goto 13, 3) := by decide +kernel
theorem dX5_init_144 : decode cX5_init 144 = .ok (.iload_n 3, 1) := by decide +kernel
theorem dX5_init_145 : decode cX5_init 145 = .ok (.iconst 3, 1) := by decide +kernel
theorem dX5_init_146 : decode cX5_init 146 = .ok (.if_icmp .le 7, 3) := by decide +kernel
theorem dX5_init_149 : decode cX5_init 149 = .ok (.iconst 3, 1) := by decide +kernel
theorem dX5_init_150 : decode cX5_init 150 = .ok (.goto 4, 3) := by decide +kernel
theorem dX5_init_153 : decode cX5_init 153 = .ok (.iload_n 3, 1) := by decide +kernel
theorem dX5_init_154 : decode cX5_init 154 = .ok (.putfield 45, 3) := by decide +kernel
theorem dX5_init_157 : decode cX5_init 157 = .ok (.return_, 1) := by decide +kernel
theorem dX5_thrown_0 : decode cX5_thrown 0 = .ok (.aload_n 0, 1) := by decide +kernel
theorem dX5_thrown_1 : decode cX5_thrown 1 = .ok (.getfield 48, 3) := by decide +kernel
theorem dX5_thrown_4 : decode cX5_thrown 4 = .ok (.ireturn, 1) := by decide +kernel
theorem dX5_in_0 : decode cX5_in 0 = .ok (.iload_n 0, 1) := by decide +kernel
theorem dX5_in_1 : decode cX5_in 1 = .ok (.iload_n 1, 1) := by decide +kernel
theorem dX5_in_2 : decode cX5_in 2 = .ok (.if_icmp .lt 12, 3) := by decide +kernel
theorem dX5_in_5 : decode cX5_in 5 = .ok (.iload_n 0, 1) := by decide +kernel
theorem dX5_in_6 : decode cX5_in 6 = .ok (.iload_n 2, 1) := by decide +kernel
theorem dX5_in_7 : decode cX5_in 7 = .ok (.if_icmp .gt 7, 3) := by decide +kernel
theorem dX5_in_10 : decode cX5_in 10 = .ok (.iconst 1, 1) := by decide +kernel
theorem dX5_in_11 : decode cX5_in 11 = .ok (.goto 4, 3) := by decide +kernel
theorem dX5_in_14 : decode cX5_in 14 = .ok (.iconst 0, 1) := by decide +kernel
theorem dX5_in_15 : decode cX5_in 15 = .ok (.ireturn, 1) := by decide +kernel
set_option maxRecDepth 20000 in
theorem ggX5_isPlace_X5_in : GoodIn wsX5_isPlace wsX5_in := goodIn_r _ [6] (by decide +kernel) (by decide +kernel)
set_option maxRecDepth 20000 in
theorem gX5_isPlace_X5_in : GoodIn wsX5_isPlace (va_wsS RX5 51 yX5_in wsX5_in) := goodIn_app (goodIn_of _ (by decide +kernel)) ggX5_isPlace_X5_in
theorem dX5_isPlace_0 : decode cX5_isPlace 0 = .ok (.iload_n 1, 1) := by decide +kernel
theorem dX5_isPlace_1 : decode cX5_isPlace 1 = .ok (.iconst 0, 1) := by decide +kernel
theorem dX5_isPlace_2 : decode cX5_isPlace 2 = .ok (.aload_n 0, 1) := by decide +kernel
theorem dX5_isPlace_3 : decode cX5_isPlace 3 = .ok (.getfield 38, 3) := by decide +kernel
theorem dX5_isPlace_6 : decode cX5_isPlace 6 = .ok (.iconst 1, 1) := by decide +kernel
theorem dX5_isPlace_7 : decode cX5_isPlace 7 = .ok (.isub, 1) := by decide +kernel
theorem dX5_isPlace_8 : decode cX5_isPlace 8 = .ok (.invokestatic 51, 3) := by decide +kernel
theorem dX5_isPlace_11 : decode cX5_isPlace 11 = .ok (.ifCond .eq 21, 3) := by decide +kernel
