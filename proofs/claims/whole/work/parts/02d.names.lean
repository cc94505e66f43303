theorem dX2_replace_1 : decode cX2_replace 1 = .ok (.aload_n 0, 1) := by decide +kernel
theorem dX2_replace_2 : decode cX2_replace 2 = .ok (.getfield 9, 3) := by decide +kernel
theorem dX2_replace_5 : decode cX2_replace 5 = .ok (.imul, 1) := by decide +kernel
theorem dX2_replace_6 : decode cX2_replace 6 = .ok (.iload_n 2, 1) := by decide +kernel
theorem dX2_replace_7 : decode cX2_replace 7 = .ok (.iadd, 1) := by decide +kernel
theorem dX2_replace_8 : decode cX2_replace 8 = .ok (.istore 4, 2) := by decide +kernel
theorem dX2_replace_10 : decode cX2_replace 10 = .ok (.iload 4, 2) := by decide +kernel
theorem dX2_replace_12 : decode cX2_replace 12 = .ok (.ifCond .lt 13, 3) := by decide +kernel
theorem dX2_replace_15 : decode cX2_replace 15 = .ok (.iload 4, 2) := by decide +kernel
theorem dX2_replace_17 : decode cX2_replace 17 = .ok (.aload_n 0, 1) := by decide +kernel
theorem dX2_replace_18 : decode cX2_replace 18 = .ok (.getfield 15, 3) := by decide +kernel
theorem dX2_replace_21 : decode cX2_replace 21 = .ok (.arraylength, 1) := by decide +kernel
theorem dX2_replace_22 : decode cX2_replace 22 = .ok (.if_icmp .lt 5, 3) := by decide +kernel
theorem dX2_replace_25 : decode cX2_replace 25 = .ok (.iconst (-1), 1) := by decide +kernel
theorem dX2_replace_26 : decode cX2_replace 26 = .ok (.ireturn, 1) := by decide +kernel
theorem dX2_replace_27 : decode cX2_replace 27 = .ok (.aload_n 0, 1) := by decide +kernel
theorem dX2_replace_28 : decode cX2_replace 28 = .ok (.getfield 15, 3) := by decide +kernel
theorem dX2_replace_31 : decode cX2_replace 31 = .ok (.iload 4, 2) := by decide +kernel
theorem dX2_replace_33 : decode cX2_replace 33 = .ok (.iaload, 1) := by decide +kernel
theorem dX2_replace_34 : decode cX2_replace 34 = .ok (.istore 5, 2) := by decide +kernel
theorem dX2_replace_36 : decode cX2_replace 36 = .ok (.aload_n 0, 1) := by decide +kernel
theorem dX2_replace_37 : decode cX2_replace 37 = .ok (.getfield 15, 3) := by decide +kernel
theorem dX2_replace_40 : decode cX2_replace 40 = .ok (.iload 4, 2) := by decide +kernel
theorem dX2_replace_42 : decode cX2_replace 42 = .ok (.iload_n 3, 1) := by decide +kernel
theorem dX2_replace_43 : decode cX2_replace 43 = .ok (.iastore, 1) := by decide +kernel
theorem dX2_replace_44 : decode cX2_replace 44 = .ok (.iload 5, 2) := by decide +kernel
theorem dX2_replace_46 : decode cX2_replace 46 = .ok (.ireturn, 1) := by decide +kernel
theorem dX2_fill_0 : decode cX2_fill 0 = .ok (.iconst 0, 1) := by decide +kernel
theorem dX2_fill_1 : decode cX2_fill 1 = .ok (.istore_n 3, 1) := by decide +kernel
theorem dX2_fill_2 : decode cX2_fill 2 = .ok (.iload_n 1, 1) := by decide +kernel
theorem dX2_fill_3 : decode cX2_fill 3 = .ok (.istore 4, 2) := by decide +kernel
theorem dX2_fill_5 : decode cX2_fill 5 = .ok (.iconst 0, 1) := by decide +kernel
theorem dX2_fill_6 : decode cX2_fill 6 = .ok (.istore 5, 2) := by decide +kernel
theorem dX2_fill_8 : decode cX2_fill 8 = .ok (.iload 5, 2) := by decide +kernel
theorem dX2_fill_10 : decode cX2_fill 10 = .ok (.aload_n 0, 1) := by decide +kernel
theorem dX2_fill_11 : decode cX2_fill 11 = .ok (.getfield 15, 3) := by decide +kernel
theorem dX2_fill_14 : decode cX2_fill 14 = .ok (.arraylength, 1) := by decide +kernel
theorem dX2_fill_15 : decode cX2_fill 15 = .ok (.if_icmp .ge 47, 3) := by decide +kernel
theorem dX2_fill_18 : decode cX2_fill 18 = .ok (.iload 4, 2) := by decide +kernel
theorem dX2_fill_20 : decode cX2_fill 20 = .ok (.sipush 255, 3) := by decide +kernel
theorem dX2_fill_23 : decode cX2_fill 23 = .ok (.iand, 1) := by decide +kernel
theorem dX2_fill_24 : decode cX2_fill 24 = .ok (.istore 6, 2) := by decide +kernel
theorem dX2_fill_26 : decode cX2_fill 26 = .ok (.aload_n 0, 1) := by decide +kernel
theorem dX2_fill_27 : decode cX2_fill 27 = .ok (.getfield 15, 3) := by decide +kernel
theorem dX2_fill_30 : decode cX2_fill 30 = .ok (.iload 5, 2) := by decide +kernel
theorem dX2_fill_32 : decode cX2_fill 32 = .ok (.iaload, 1) := by decide +kernel
theorem dX2_fill_33 : decode cX2_fill 33 = .ok (.iload 6, 2) := by decide +kernel
theorem dX2_fill_35 : decode cX2_fill 35 = .ok (.if_icmp .eq 15, 3) := by decide +kernel
theorem dX2_fill_38 : decode cX2_fill 38 = .ok (.aload_n 0, 1) := by decide +kernel
theorem dX2_fill_39 : decode cX2_fill 39 = .ok (.getfield 15, 3) := by decide +kernel
theorem dX2_fill_42 : decode cX2_fill 42 = .ok (.iload 5, 2) := by decide +kernel
theorem dX2_fill_44 : decode cX2_fill 44 = .ok (.iload 6, 2) := by decide +kernel
theorem dX2_fill_46 : decode cX2_fill 46 = .ok (.iastore, 1) := by decide +kernel
theorem dX2_fill_47 : decode cX2_fill 47 = .ok (.iinc 3 1, 3) := by decide +kernel
theorem dX2_fill_50 : decode cX2_fill 50 = .ok (.iload 4, 2) := by decide +kernel
theorem dX2_fill_52 : decode cX2_fill 52 = .ok (.iload_n 2, 1) := by decide +kernel
theorem dX2_fill_53 : decode cX2_fill 53 = .ok (.iadd, 1) := by decide +kernel
theorem dX2_fill_54 : decode cX2_fill 54 = .ok (.istore 4, 2) := by decide +kernel
theorem dX2_fill_56 : decode cX2_fill 56 = .ok (.iinc 5 1, 3) := by decide +kernel
theorem dX2_fill_59 : decode cX2_fill 59 = .ok (.goto (-51), 3) := by decide +kernel
theorem dX2_fill_62 : decode cX2_fill 62 = .ok (.iload_n 3, 1) := by decide +kernel
theorem dX2_fill_63 : decode cX2_fill 63 = .ok (.ireturn, 1) := by decide +kernel
theorem dX2_become_0 : decode cX2_become 0 = .ok (.iconst 0, 1) := by decide +kernel
theorem dX2_become_1 : decode cX2_become 1 = .ok (.istore_n 2, 1) := by decide +kernel
theorem dX2_become_2 : decode cX2_become 2 = .ok (.iconst 0, 1) := by decide +kernel
theorem dX2_become_3 : decode cX2_become 3 = .ok (.istore_n 3, 1) := by decide +kernel
theorem dX2_become_4 : decode cX2_become 4 = .ok (.iload_n 3, 1) := by decide +kernel
theorem dX2_become_5 : decode cX2_become 5 = .ok (.aload_n 0, 1) := by decide +kernel
theorem dX2_become_6 : decode cX2_become 6 = .ok (.getfield 15, 3) := by decide +kernel
theorem dX2_become_9 : decode cX2_become 9 = .ok (.arraylength, 1) := by decide +kernel
theorem dX2_become_10 : decode cX2_become 10 = .ok (.if_icmp .ge 48, 3) := by decide +kernel
theorem dX2_become_13 : decode cX2_become 13 = .ok (.iload_n 3, 1) := by decide +kernel
theorem dX2_become_14 : decode cX2_become 14 = .ok (.aload_n 1, 1) := by decide +kernel
theorem dX2_become_15 : decode cX2_become 15 = .ok (.getfield 15, 3) := by decide +kernel
theorem dX2_become_18 : decode cX2_become 18 = .ok (.arraylength, 1) := by decide +kernel
theorem dX2_become_19 : decode cX2_become 19 = .ok (.if_icmp .ge 39, 3) := by decide +kernel
theorem dX2_become_22 : decode cX2_become 22 = .ok (.aload_n 0, 1) := by decide +kernel
theorem dX2_become_23 : decode cX2_become 23 = .ok (.getfield 15, 3) := by decide +kernel
theorem dX2_become_26 : decode cX2_become 26 = .ok (.iload_n 3, 1) := by decide +kernel
theorem dX2_become_27 : decode cX2_become 27 = .ok (.iaload, 1) := by decide +kernel
theorem dX2_become_28 : decode cX2_become 28 = .ok (.aload_n 1, 1) := by decide +kernel
theorem dX2_become_29 : decode cX2_become 29 = .ok (.getfield 15, 3) := by decide +kernel
theorem dX2_become_32 : decode cX2_become 32 = .ok (.iload_n 3, 1) := by decide +kernel
theorem dX2_become_33 : decode cX2_become 33 = .ok (.iaload, 1) := by decide +kernel
theorem dX2_become_34 : decode cX2_become 34 = .ok (.if_icmp .eq 18, 3) := by decide +kernel
theorem dX2_become_37 : decode cX2_become 37 = .ok (.aload_n 0, 1) := by decide +kernel
theorem dX2_become_38 : decode cX2_become 38 = .ok (.getfield 15, 3) := by decide +kernel
theorem dX2_become_41 : decode cX2_become 41 = .ok (.iload_n 3, 1) := by decide +kernel
theorem dX2_become_42 : decode cX2_become 42 = .ok (.aload_n 1, 1) := by decide +kernel
theorem dX2_become_43 : decode cX2_become 43 = .ok (.getfield 15, 3) := by decide +kernel
theorem dX2_become_46 : decode cX2_become 46 = .ok (.iload_n 3, 1) := by decide +kernel
theorem dX2_become_47 : decode cX2_become 47 = .ok (.iaload, 1) := by decide +kernel
theorem dX2_become_48 : decode cX2_become 48 = .ok (.iastore, 1) := by decide +kernel
theorem dX2_become_49 : decode cX2_become 49 = .ok (.iinc 2 1, 3) := by decide +kernel
theorem dX2_become_52 : decode cX2_become 52 = .ok (.iinc 3 1, 3) := by decide +kernel
theorem dX2_become_55 : decode cX2_become 55 = .ok (.goto (-51), 3) := by decide +kernel
theorem dX2_become_58 : decode cX2_become 58 = .ok (.iload_n 2, 1) := by decide +kernel
theorem dX2_become_59 : decode cX2_become 59 = .ok (.ireturn, 1) := by decide +kernel
theorem dX2_squaresAgainst_0 : decode cX2_squaresAgainst 0 = .ok (.lconst 0, 1) := by decide +kernel
theorem dX2_squaresAgainst_1 : decode cX2_squaresAgainst 1 = .ok (.lstore_n 3, 1) := by decide +kernel
theorem dX2_squaresAgainst_2 : decode cX2_squaresAgainst 2 = .ok (.iload_n 2, 1) := by decide +kernel
theorem dX2_squaresAgainst_3 : decode cX2_squaresAgainst 3 = .ok (.ifCond .lt 11, 3) := by decide +kernel
theorem dX2_squaresAgainst_6 : decode cX2_squaresAgainst 6 = .ok (.aload_n 0, 1) := by decide +kernel
theorem dX2_squaresAgainst_7 : decode cX2_squaresAgainst 7 = .ok (.getfield 9, 3) := by decide +kernel
theorem dX2_squaresAgainst_10 : decode cX2_squaresAgainst 10 = .ok (.iconst 1, 1) := by decide +kernel
theorem dX2_squaresAgainst_11 : decode cX2_squaresAgainst 11 = .ok (.if_icmp .ge 5, 3) := by decide +kernel
theorem dX2_squaresAgainst_14 : decode cX2_squaresAgainst 14 = .ok (.lload_n 3, 1) := by decide +kernel
theorem dX2_squaresAgainst_15 : decode cX2_squaresAgainst 15 = .ok (.lreturn, 1) := by decide +kernel
theorem dX2_squaresAgainst_16 : decode cX2_squaresAgainst 16 = .ok (.iload_n 2, 1) := by decide +kernel
theorem dX2_squaresAgainst_17 : decode cX2_squaresAgainst 17 = .ok (.istore 5, 2) := by decide +kernel
theorem dX2_squaresAgainst_19 : decode cX2_squaresAgainst 19 = .ok (.iload 5, 2) := by decide +kernel
theorem dX2_squaresAgainst_21 : decode cX2_squaresAgainst 21 = .ok (.aload_n 0, 1) := by decide +kernel
theorem dX2_squaresAgainst_22 : decode cX2_squaresAgainst 22 = .ok (.getfield 15, 3) := by decide +kernel
theorem dX2_squaresAgainst_25 : decode cX2_squaresAgainst 25 = .ok (.arraylength, 1) := by decide +kernel
theorem dX2_squaresAgainst_26 : decode cX2_squaresAgainst 26 = .ok (.if_icmp .ge 51, 3) := by decide +kernel
theorem dX2_squaresAgainst_29 : decode cX2_squaresAgainst 29 = .ok (.iload 5, 2) := by decide +kernel
theorem dX2_squaresAgainst_31 : decode cX2_squaresAgainst 31 = .ok (.aload_n 1, 1) := by decide +kernel
theorem dX2_squaresAgainst_32 : decode cX2_squaresAgainst 32 = .ok (.getfield 15, 3) := by decide +kernel
theorem dX2_squaresAgainst_35 : decode cX2_squaresAgainst 35 = .ok (.arraylength, 1) := by decide +kernel
theorem dX2_squaresAgainst_36 : decode cX2_squaresAgainst 36 = .ok (.if_icmp .ge 41, 3) := by decide +kernel
theorem dX2_squaresAgainst_39 : decode cX2_squaresAgainst 39 = .ok (.aload_n 0, 1) := by decide +kernel
theorem dX2_squaresAgainst_40 : decode cX2_squaresAgainst 40 = .ok (.getfield 15, 3) := by decide +kernel
theorem dX2_squaresAgainst_43 : decode cX2_squaresAgainst 43 = .ok (.iload 5, 2) := by decide +kernel
theorem dX2_squaresAgainst_45 : decode cX2_squaresAgainst 45 = .ok (.iaload, 1) := by decide +kernel
theorem dX2_squaresAgainst_46 : decode cX2_squaresAgainst 46 = .ok (.aload_n 1, 1) := by decide +kernel
theorem dX2_squaresAgainst_47 : decode cX2_squaresAgainst 47 = .ok (.getfield 15, 3) := by decide +kernel
theorem dX2_squaresAgainst_50 : decode cX2_squaresAgainst 50 = .ok (.iload 5, 2) := by decide +kernel
theorem dX2_squaresAgainst_52 : decode cX2_squaresAgainst 52 = .ok (.iaload, 1) := by decide +kernel
theorem dX2_squaresAgainst_53 : decode cX2_squaresAgainst 53 = .ok (.isub, 1) := by decide +kernel
theorem dX2_squaresAgainst_54 : decode cX2_squaresAgainst 54 = .ok (.istore 6, 2) := by decide +kernel
theorem dX2_squaresAgainst_56 : decode cX2_squaresAgainst 56 = .ok (.lload_n 3, 1) := by decide +kernel
theorem dX2_squaresAgainst_57 : decode cX2_squaresAgainst 57 = .ok (.iload 6, 2) := by decide +kernel
theorem dX2_squaresAgainst_59 : decode cX2_squaresAgainst 59 = .ok (.iload 6, 2) := by decide +kernel
theorem dX2_squaresAgainst_61 : decode cX2_squaresAgainst 61 = .ok (.imul, 1) := by decide +kernel
theorem dX2_squaresAgainst_62 : decode cX2_squaresAgainst 62 = .ok (.i2l, 1) := by decide +kernel
theorem dX2_squaresAgainst_63 : decode cX2_squaresAgainst 63 = .ok (.ladd, 1) := by decide +kernel
theorem dX2_squaresAgainst_64 : decode cX2_squaresAgainst 64 = .ok (.lstore_n 3, 1) := by decide +kernel
theorem dX2_squaresAgainst_65 : decode cX2_squaresAgainst 65 = .ok (.iload 5, 2) := by decide +kernel
theorem dX2_squaresAgainst_67 : decode cX2_squaresAgainst 67 = .ok (.aload_n 0, 1) := by decide +kernel
theorem dX2_squaresAgainst_68 : decode cX2_squaresAgainst 68 = .ok (.getfield 9, 3) := by decide +kernel
theorem dX2_squaresAgainst_71 : decode cX2_squaresAgainst 71 = .ok (.iadd, 1) := by decide +kernel
theorem dX2_squaresAgainst_72 : decode cX2_squaresAgainst 72 = .ok (.istore 5, 2) := by decide +kernel
theorem dX2_squaresAgainst_74 : decode cX2_squaresAgainst 74 = .ok (.goto (-55), 3) := by decide +kernel
theorem dX2_squaresAgainst_77 : decode cX2_squaresAgainst 77 = .ok (.lload_n 3, 1) := by decide +kernel
theorem dX2_squaresAgainst_78 : decode cX2_squaresAgainst 78 = .ok (.lreturn, 1) := by decide +kernel
theorem dX2_greatestAgainst_0 : decode cX2_greatestAgainst 0 = .ok (.iconst 0, 1) := by decide +kernel
theorem dX2_greatestAgainst_1 : decode cX2_greatestAgainst 1 = .ok (.istore_n 2, 1) := by decide +kernel
theorem dX2_greatestAgainst_2 : decode cX2_greatestAgainst 2 = .ok (.iconst 0, 1) := by decide +kernel
theorem dX2_greatestAgainst_3 : decode cX2_greatestAgainst 3 = .ok (.istore_n 3, 1) := by decide +kernel
theorem dX2_greatestAgainst_4 : decode cX2_greatestAgainst 4 = .ok (.iload_n 3, 1) := by decide +kernel
theorem dX2_greatestAgainst_5 : decode cX2_greatestAgainst 5 = .ok (.aload_n 0, 1) := by decide +kernel
theorem dX2_greatestAgainst_6 : decode cX2_greatestAgainst 6 = .ok (.getfield 15, 3) := by decide +kernel
theorem dX2_greatestAgainst_9 : decode cX2_greatestAgainst 9 = .ok (.arraylength, 1) := by decide +kernel
theorem dX2_greatestAgainst_10 : decode cX2_greatestAgainst 10 = .ok (.if_icmp .ge 39, 3) := by decide +kernel
theorem dX2_greatestAgainst_13 : decode cX2_greatestAgainst 13 = .ok (.iload_n 3, 1) := by decide +kernel
theorem dX2_greatestAgainst_14 : decode cX2_greatestAgainst 14 = .ok (.aload_n 1, 1) := by decide +kernel
theorem dX2_greatestAgainst_15 : decode cX2_greatestAgainst 15 = .ok (.getfield 15, 3) := by decide +kernel
theorem dX2_greatestAgainst_18 : decode cX2_greatestAgainst 18 = .ok (.arraylength, 1) := by decide +kernel
theorem dX2_greatestAgainst_19 : decode cX2_greatestAgainst 19 = .ok (.if_icmp .ge 30, 3) := by decide +kernel
theorem dX2_greatestAgainst_22 : decode cX2_greatestAgainst 22 = .ok (.iload_n 2, 1) := by decide +kernel
theorem dX2_greatestAgainst_23 : decode cX2_greatestAgainst 23 = .ok (.aload_n 0, 1) := by decide +kernel
theorem dX2_greatestAgainst_24 : decode cX2_greatestAgainst 24 = .ok (.getfield 15, 3) := by decide +kernel
theorem dX2_greatestAgainst_27 : decode cX2_greatestAgainst 27 = .ok (.iload_n 3, 1) := by decide +kernel
theorem dX2_greatestAgainst_28 : decode cX2_greatestAgainst 28 = .ok (.iaload, 1) := by decide +kernel
theorem dX2_greatestAgainst_29 : decode cX2_greatestAgainst 29 = .ok (.aload_n 1, 1) := by decide +kernel
theorem dX2_greatestAgainst_30 : decode cX2_greatestAgainst 30 = .ok (.getfield 15, 3) := by decide +kernel
theorem dX2_greatestAgainst_33 : decode cX2_greatestAgainst 33 = .ok (.iload_n 3, 1) := by decide +kernel
theorem dX2_greatestAgainst_34 : decode cX2_greatestAgainst 34 = .ok (.iaload, 1) := by decide +kernel
theorem dX2_greatestAgainst_35 : decode cX2_greatestAgainst 35 = .ok (.isub, 1) := by decide +kernel
theorem dX2_greatestAgainst_36 : decode cX2_greatestAgainst 36 = .ok (.invokestatic 19, 3) := by decide +kernel
theorem dX2_greatestAgainst_39 : decode cX2_greatestAgainst 39 = .ok (.invokestatic 25, 3) := by decide +kernel
theorem dX2_greatestAgainst_42 : decode cX2_greatestAgainst 42 = .ok (.istore_n 2, 1) := by decide +kernel
theorem dX2_greatestAgainst_43 : decode cX2_greatestAgainst 43 = .ok (.iinc 3 1, 3) := by decide +kernel
theorem dX2_greatestAgainst_46 : decode cX2_greatestAgainst 46 = .ok (.goto (-42), 3) := by decide +kernel
theorem dX2_greatestAgainst_49 : decode cX2_greatestAgainst 49 = .ok (.iload_n 2, 1) := by decide +kernel
theorem dX2_greatestAgainst_50 : decode cX2_greatestAgainst 50 = .ok (.ireturn, 1) := by decide +kernel
set_option maxRecDepth 20000 in
theorem ggX2_sameAs_X2_greatestAgainst : GoodIn wsX2_sameAs wsX2_greatestAgainst := goodIn_r _ [5, 6, 7, 8, 9, 10, 11, 12, 13, 14, 15] (by decide +kernel) (by decide +kernel)
set_option maxRecDepth 20000 in
theorem gX2_sameAs_X2_greatestAgainst : GoodIn wsX2_sameAs (wsV RX2 29 RX2 yX2_greatestAgainst wsX2_greatestAgainst) := goodIn_app (goodIn_of _ (by decide +kernel)) ggX2_sameAs_X2_greatestAgainst
theorem dX2_sameAs_0 : decode cX2_sameAs 0 = .ok (.aload_n 0, 1) := by decide +kernel
theorem dX2_sameAs_1 : decode cX2_sameAs 1 = .ok (.aload_n 1, 1) := by decide +kernel
theorem dX2_sameAs_2 : decode cX2_sameAs 2 = .ok (.invokevirtual 29, 3) := by decide +kernel
theorem dX2_sameAs_5 : decode cX2_sameAs 5 = .ok (.ifCond .ne 7, 3) := by decide +kernel
theorem dX2_sameAs_8 : decode cX2_sameAs 8 = .ok (.iconst 1, 1) := by decide +kernel
theorem dX2_sameAs_9 : decode cX2_sameAs 9 = .ok (.goto 4, 3) := by decide +kernel
theorem dX2_sameAs_12 : decode cX2_sameAs 12 = .ok (.iconst 0, 1) := by decide +kernel
theorem dX2_sameAs_13 : decode cX2_sameAs 13 = .ok (.ireturn, 1) := by decide +kernel
theorem dX2_greyAt_0 : decode cX2_greyAt 0 = .ok (.iload_n 1, 1) := by decide +kernel
theorem dX2_greyAt_1 : decode cX2_greyAt 1 = .ok (.aload_n 0, 1) := by decide +kernel
theorem dX2_greyAt_2 : decode cX2_greyAt 2 = .ok (.getfield 9, 3) := by decide +kernel
theorem dX2_greyAt_5 : decode cX2_greyAt 5 = .ok (.imul, 1) := by decide +kernel
theorem dX2_greyAt_6 : decode cX2_greyAt 6 = .ok (.istore_n 2, 1) := by decide +kernel
theorem dX2_greyAt_7 : decode cX2_greyAt 7 = .ok (.iload_n 2, 1) := by decide +kernel
theorem dX2_greyAt_8 : decode cX2_greyAt 8 = .ok (.ifCond .lt 17, 3) := by decide +kernel
theorem dX2_greyAt_11 : decode cX2_greyAt 11 = .ok (.iload_n 2, 1) := by decide +kernel
theorem dX2_greyAt_12 : decode cX2_greyAt 12 = .ok (.aload_n 0, 1) := by decide +kernel
theorem dX2_greyAt_13 : decode cX2_greyAt 13 = .ok (.getfield 9, 3) := by decide +kernel
theorem dX2_greyAt_16 : decode cX2_greyAt 16 = .ok (.iadd, 1) := by decide +kernel
theorem dX2_greyAt_17 : decode cX2_greyAt 17 = .ok (.aload_n 0, 1) := by decide +kernel
theorem dX2_greyAt_18 : decode cX2_greyAt 18 = .ok (.getfield 15, 3) := by decide +kernel
theorem dX2_greyAt_21 : decode cX2_greyAt 21 = .ok (.arraylength, 1) := by decide +kernel
theorem dX2_greyAt_22 : decode cX2_greyAt 22 = .ok (.if_icmp .le 5, 3) := by decide +kernel
theorem dX2_greyAt_25 : decode cX2_greyAt 25 = .ok (.iconst 0, 1) := by decide +kernel
theorem dX2_greyAt_26 : decode cX2_greyAt 26 = .ok (.ireturn, 1) := by decide +kernel
theorem dX2_greyAt_27 : decode cX2_greyAt 27 = .ok (.aload_n 0, 1) := by decide +kernel
theorem dX2_greyAt_28 : decode cX2_greyAt 28 = .ok (.getfield 9, 3) := by decide +kernel
theorem dX2_greyAt_31 : decode cX2_greyAt 31 = .ok (.tableswitch 83 1 3 #[25, 32, 52], 25) := by decide +kernel
theorem dX2_greyAt_56 : decode cX2_greyAt 56 = .ok (.aload_n 0, 1) := by decide +kernel
theorem dX2_greyAt_57 : decode cX2_greyAt 57 = .ok (.getfield 15, 3) := by decide +kernel
theorem dX2_greyAt_60 : decode cX2_greyAt 60 = .ok (.iload_n 2, 1) := by decide +kernel
theorem dX2_greyAt_61 : decode cX2_greyAt 61 = .ok (.iaload, 1) := by decide +kernel
theorem dX2_greyAt_62 : decode cX2_greyAt 62 = .ok (.ireturn, 1) := by decide +kernel
theorem dX2_greyAt_63 : decode cX2_greyAt 63 = .ok (.aload_n 0, 1) := by decide +kernel
theorem dX2_greyAt_64 : decode cX2_greyAt 64 = .ok (.getfield 15, 3) := by decide +kernel
theorem dX2_greyAt_67 : decode cX2_greyAt 67 = .ok (.iload_n 2, 1) := by decide +kernel
theorem dX2_greyAt_68 : decode cX2_greyAt 68 = .ok (.iaload, 1) := by decide +kernel
theorem dX2_greyAt_69 : decode cX2_greyAt 69 = .ok (.aload_n 0, 1) := by decide +kernel
theorem dX2_greyAt_70 : decode cX2_greyAt 70 = .ok (.getfield 15, 3) := by decide +kernel
theorem dX2_greyAt_73 : decode cX2_greyAt 73 = .ok (.iload_n 2, 1) := by decide +kernel
theorem dX2_greyAt_74 : decode cX2_greyAt 74 = .ok (.iconst 1, 1) := by decide +kernel
theorem dX2_greyAt_75 : decode cX2_greyAt 75 = .ok (.iadd, 1) := by decide +kernel
theorem dX2_greyAt_76 : decode cX2_greyAt 76 = .ok (.iaload, 1) := by decide +kernel
theorem dX2_greyAt_77 : decode cX2_greyAt 77 = .ok (.iadd, 1) := by decide +kernel
theorem dX2_greyAt_78 : decode cX2_greyAt 78 = .ok (.iconst 1, 1) := by decide +kernel
theorem dX2_greyAt_79 : decode cX2_greyAt 79 = .ok (.iadd, 1) := by decide +kernel
theorem dX2_greyAt_80 : decode cX2_greyAt 80 = .ok (.iconst 2, 1) := by decide +kernel
theorem dX2_greyAt_81 : decode cX2_greyAt 81 = .ok (.idiv, 1) := by decide +kernel
theorem dX2_greyAt_82 : decode cX2_greyAt 82 = .ok (.ireturn, 1) := by decide +kernel
theorem dX2_greyAt_83 : decode cX2_greyAt 83 = .ok (.aload_n 0, 1) := by decide +kernel
theorem dX2_greyAt_84 : decode cX2_greyAt 84 = .ok (.getfield 15, 3) := by decide +kernel
theorem dX2_greyAt_87 : decode cX2_greyAt 87 = .ok (.iload_n 2, 1) := by decide +kernel
theorem dX2_greyAt_88 : decode cX2_greyAt 88 = .ok (.iaload, 1) := by decide +kernel
theorem dX2_greyAt_89 : decode cX2_greyAt 89 = .ok (.iconst 2, 1) := by decide +kernel
theorem dX2_greyAt_90 : decode cX2_greyAt 90 = .ok (.aload_n 0, 1) := by decide +kernel
theorem dX2_greyAt_91 : decode cX2_greyAt 91 = .ok (.getfield 15, 3) := by decide +kernel
theorem dX2_greyAt_94 : decode cX2_greyAt 94 = .ok (.iload_n 2, 1) := by decide +kernel
theorem dX2_greyAt_95 : decode cX2_greyAt 95 = .ok (.iconst 1, 1) := by decide +kernel
theorem dX2_greyAt_96 : decode cX2_greyAt 96 = .ok (.iadd, 1) := by decide +kernel
theorem dX2_greyAt_97 : decode cX2_greyAt 97 = .ok (.iaload, 1) := by decide +kernel
theorem dX2_greyAt_98 : decode cX2_greyAt 98 = .ok (.imul, 1) := by decide +kernel
theorem dX2_greyAt_99 : decode cX2_greyAt 99 = .ok (.iadd, 1) := by decide +kernel
theorem dX2_greyAt_100 : decode cX2_greyAt 100 = .ok (.aload_n 0, 1) := by decide +kernel
theorem dX2_greyAt_101 : decode cX2_greyAt 101 = .ok (.getfield 15, 3) := by decide +kernel
theorem dX2_greyAt_104 : decode cX2_greyAt 104 = .ok (.iload_n 2, 1) := by decide +kernel
theorem dX2_greyAt_105 : decode cX2_greyAt 105 = .ok (.iconst 2, 1) := by decide +kernel
theorem dX2_greyAt_106 : decode cX2_greyAt 106 = .ok (.iadd, 1) := by decide +kernel
theorem dX2_greyAt_107 : decode cX2_greyAt 107 = .ok (.iaload, 1) := by decide +kernel
theorem dX2_greyAt_108 : decode cX2_greyAt 108 = .ok (.iadd, 1) := by decide +kernel
theorem dX2_greyAt_109 : decode cX2_greyAt 109 = .ok (.iconst 2, 1) := by decide +kernel
theorem dX2_greyAt_110 : decode cX2_greyAt 110 = .ok (.iadd, 1) := by decide +kernel
theorem dX2_greyAt_111 : decode cX2_greyAt 111 = .ok (.iconst 4, 1) := by decide +kernel
theorem dX2_greyAt_112 : decode cX2_greyAt 112 = .ok (.idiv, 1) := by decide +kernel
theorem dX2_greyAt_113 : decode cX2_greyAt 113 = .ok (.ireturn, 1) := by decide +kernel
theorem dX2_greyAt_114 : decode cX2_greyAt 114 = .ok (.iconst 0, 1) := by decide +kernel
theorem dX2_greyAt_115 : decode cX2_greyAt 115 = .ok (.ireturn, 1) := by decide +kernel
theorem dX3_init_0 : decode cX3_init 0 = .ok (.aload_n 0, 1) := by decide +kernel
theorem dX3_init_1 : decode cX3_init 1 = .ok (.invokespecial 3, 3) := by decide +kernel
theorem dX3_init_4 : decode cX3_init 4 = .ok (.aload_n 0, 1) := by decide +kernel
theorem dX3_init_5 : decode cX3_init 5 = .ok (.iload_n 1, 1) := by decide +kernel
theorem dX3_init_6 : decode cX3_init 6 = .ok (.putfield 9, 3) := by decide +kernel
theorem dX3_init_9 : decode cX3_init 9 = .ok (.aload_n 0, 1) := by decide +kernel
theorem dX3_init_10 : decode cX3_init 10 = .ok (.iload_n 2, 1) := by decide +kernel
theorem dX3_init_11 : decode cX3_init 11 = .ok (.putfield 15, 3) := by decide +kernel
theorem dX3_init_14 : decode cX3_init 14 = .ok (.aload_n 0, 1) := by decide +kernel
theorem dX3_init_15 : decode cX3_init 15 = .ok (.iload_n 1, 1) := by decide +kernel
theorem dX3_init_16 : decode cX3_init 16 = .ok (.iload_n 2, 1) := by decide +kernel
theorem dX3_init_17 : decode cX3_init 17 = .ok (.imul, 1) := by decide +kernel
theorem dX3_init_18 : decode cX3_init 18 = .ok (.newarray .int, 2) := by decide +kernel
theorem dX3_init_20 : decode cX3_init 20 = .ok (.putfield 18, 3) := by decide +kernel
theorem dX3_init_23 : decode cX3_init 23 = .ok (.aload_n 0, 1) := by decide +kernel
theorem dX3_init_24 : decode cX3_init 24 = .ok (.iload_n 1, 1) := by decide +kernel
theorem dX3_init_25 : decode cX3_init 25 = .ok (.iload_n 2, 1) := by decide +kernel
theorem dX3_init_26 : decode cX3_init 26 = .ok (.imul, 1) := by decide +kernel
theorem dX3_init_27 : decode cX3_init 27 = .ok (.newarray .int, 2) := by decide +kernel
theorem dX3_init_29 : decode cX3_init 29 = .ok (.putfield 22, 3) := by decide +kernel
theorem dX3_init_32 : decode cX3_init 32 = .ok (.return_, 1) := by decide +kernel
set_option maxRecDepth 20000 in
theorem ggX3_readFrom_X2_greyAt : GoodIn wsX3_readFrom wsX2_greyAt := goodIn_r _ [11, 12, 13, 20, 21] (by decide +kernel) (by decide +kernel)
set_option maxRecDepth 20000 in
theorem gX3_readFrom_X2_greyAt : GoodIn wsX3_readFrom (wsV RX3 31 RX2 yX2_greyAt wsX2_greyAt) := goodIn_app (goodIn_of _ (by decide +kernel)) ggX3_readFrom_X2_greyAt
theorem dX3_readFrom_0 : decode cX3_readFrom 0 = .ok (.aload_n 0, 1) := by decide +kernel
theorem dX3_readFrom_1 : decode cX3_readFrom 1 = .ok (.aload_n 0, 1) := by decide +kernel
theorem dX3_readFrom_2 : decode cX3_readFrom 2 = .ok (.getfield 9, 3) := by decide +kernel
theorem dX3_readFrom_5 : decode cX3_readFrom 5 = .ok (.putfield 25, 3) := by decide +kernel
theorem dX3_readFrom_8 : decode cX3_readFrom 8 = .ok (.aload_n 0, 1) := by decide +kernel
theorem dX3_readFrom_9 : decode cX3_readFrom 9 = .ok (.aload_n 0, 1) := by decide +kernel
theorem dX3_readFrom_10 : decode cX3_readFrom 10 = .ok (.getfield 15, 3) := by decide +kernel
theorem dX3_readFrom_13 : decode cX3_readFrom 13 = .ok (.putfield 28, 3) := by decide +kernel
theorem dX3_readFrom_16 : decode cX3_readFrom 16 = .ok (.iconst 0, 1) := by decide +kernel
theorem dX3_readFrom_17 : decode cX3_readFrom 17 = .ok (.istore_n 3, 1) := by decide +kernel
theorem dX3_readFrom_18 : decode cX3_readFrom 18 = .ok (.iload_n 3, 1) := by decide +kernel
theorem dX3_readFrom_19 : decode cX3_readFrom 19 = .ok (.aload_n 0, 1) := by decide +kernel
theorem dX3_readFrom_20 : decode cX3_readFrom 20 = .ok (.getfield 18, 3) := by decide +kernel
theorem dX3_readFrom_23 : decode cX3_readFrom 23 = .ok (.arraylength, 1) := by decide +kernel
theorem dX3_readFrom_24 : decode cX3_readFrom 24 = .ok (.if_icmp .ge 40, 3) := by decide +kernel
theorem dX3_readFrom_27 : decode cX3_readFrom 27 = .ok (.iload_n 3, 1) := by decide +kernel
theorem dX3_readFrom_28 : decode cX3_readFrom 28 = .ok (.aload_n 0, 1) := by decide +kernel
theorem dX3_readFrom_29 : decode cX3_readFrom 29 = .ok (.getfield 22, 3) := by decide +kernel
theorem dX3_readFrom_32 : decode cX3_readFrom 32 = .ok (.arraylength, 1) := by decide +kernel
theorem dX3_readFrom_33 : decode cX3_readFrom 33 = .ok (.if_icmp .ge 31, 3) := by decide +kernel
theorem dX3_readFrom_36 : decode cX3_readFrom 36 = .ok (.aload_n 0, 1) := by decide +kernel
theorem dX3_readFrom_37 : decode cX3_readFrom 37 = .ok (.getfield 18, 3) := by decide +kernel
theorem dX3_readFrom_40 : decode cX3_readFrom 40 = .ok (.iload_n 3, 1) := by decide +kernel
theorem dX3_readFrom_41 : decode cX3_readFrom 41 = .ok (.aload_n 1, 1) := by decide +kernel
theorem dX3_readFrom_42 : decode cX3_readFrom 42 = .ok (.iload_n 3, 1) := by decide +kernel
theorem dX3_readFrom_43 : decode cX3_readFrom 43 = .ok (.invokevirtual 31, 3) := by decide +kernel
theorem dX3_readFrom_46 : decode cX3_readFrom 46 = .ok (.iastore, 1) := by decide +kernel
theorem dX3_readFrom_47 : decode cX3_readFrom 47 = .ok (.aload_n 0, 1) := by decide +kernel
theorem dX3_readFrom_48 : decode cX3_readFrom 48 = .ok (.getfield 22, 3) := by decide +kernel
theorem dX3_readFrom_51 : decode cX3_readFrom 51 = .ok (.iload_n 3, 1) := by decide +kernel
theorem dX3_readFrom_52 : decode cX3_readFrom 52 = .ok (.aload_n 2, 1) := by decide +kernel
theorem dX3_readFrom_53 : decode cX3_readFrom 53 = .ok (.iload_n 3, 1) := by decide +kernel
theorem dX3_readFrom_54 : decode cX3_readFrom 54 = .ok (.invokevirtual 31, 3) := by decide +kernel
theorem dX3_readFrom_57 : decode cX3_readFrom 57 = .ok (.iastore, 1) := by decide +kernel
theorem dX3_readFrom_58 : decode cX3_readFrom 58 = .ok (.iinc 3 1, 3) := by decide +kernel
theorem dX3_readFrom_61 : decode cX3_readFrom 61 = .ok (.goto (-43), 3) := by decide +kernel
theorem dX3_readFrom_64 : decode cX3_readFrom 64 = .ok (.return_, 1) := by decide +kernel
set_option maxRecDepth 20000 in
theorem ggX3_halve_X3_shrink : GoodIn wsX3_halve wsX3_shrink := goodIn_r _ [9, 3, 4, 10, 11, 12, 13, 14, 15] (by decide +kernel) (by decide +kernel)
set_option maxRecDepth 20000 in
theorem gX3_halve_X3_shrink : GoodIn wsX3_halve (wsV RX3 37 RX3 yX3_shrink wsX3_shrink) := goodIn_app (goodIn_of _ (by decide +kernel)) ggX3_halve_X3_shrink
theorem dX3_halve_0 : decode cX3_halve 0 = .ok (.aload_n 0, 1) := by decide +kernel
theorem dX3_halve_1 : decode cX3_halve 1 = .ok (.aload_n 0, 1) := by decide +kernel
theorem dX3_halve_2 : decode cX3_halve 2 = .ok (.getfield 18, 3) := by decide +kernel
theorem dX3_halve_5 : decode cX3_halve 5 = .ok (.invokevirtual 37, 3) := by decide +kernel
theorem dX3_halve_8 : decode cX3_halve 8 = .ok (.aload_n 0, 1) := by decide +kernel
theorem dX3_halve_9 : decode cX3_halve 9 = .ok (.aload_n 0, 1) := by decide +kernel
theorem dX3_halve_10 : decode cX3_halve 10 = .ok (.getfield 22, 3) := by decide +kernel
theorem dX3_halve_13 : decode cX3_halve 13 = .ok (.invokevirtual 37, 3) := by decide +kernel
theorem dX3_halve_16 : decode cX3_halve 16 = .ok (.aload_n 0, 1) := by decide +kernel
theorem dX3_halve_17 : decode cX3_halve 17 = .ok (.dup, 1) := by decide +kernel
theorem dX3_halve_18 : decode cX3_halve 18 = .ok (.getfield 25, 3) := by decide +kernel
theorem dX3_halve_21 : decode cX3_halve 21 = .ok (.iconst 2, 1) := by decide +kernel
theorem dX3_halve_22 : decode cX3_halve 22 = .ok (.idiv, 1) := by decide +kernel
theorem dX3_halve_23 : decode cX3_halve 23 = .ok (.putfield 25, 3) := by decide +kernel
theorem dX3_halve_26 : decode cX3_halve 26 = .ok (.aload_n 0, 1) := by decide +kernel
theorem dX3_halve_27 : decode cX3_halve 27 = .ok (.dup, 1) := by decide +kernel
theorem dX3_halve_28 : decode cX3_halve 28 = .ok (.getfield 28, 3) := by decide +kernel
theorem dX3_halve_31 : decode cX3_halve 31 = .ok (.iconst 2, 1) := by decide +kernel
theorem dX3_halve_32 : decode cX3_halve 32 = .ok (.idiv, 1) := by decide +kernel
theorem dX3_halve_33 : decode cX3_halve 33 = .ok (.putfield 28, 3) := by decide +kernel
theorem dX3_halve_36 : decode cX3_halve 36 = .ok (.return_, 1) := by decide +kernel
theorem dX3_shrink_0 : decode cX3_shrink 0 = .ok (.aload_n 0, 1) := by decide +kernel
theorem dX3_shrink_1 : decode cX3_shrink 1 = .ok (.getfield 25, 3) := by decide +kernel
theorem dX3_shrink_4 : decode cX3_shrink 4 = .ok (.iconst 2, 1) := by decide +kernel
theorem dX3_shrink_5 : decode cX3_shrink 5 = .ok (.idiv, 1) := by decide +kernel
theorem dX3_shrink_6 : decode cX3_shrink 6 = .ok (.istore_n 2, 1) := by decide +kernel
theorem dX3_shrink_7 : decode cX3_shrink 7 = .ok (.aload_n 0, 1) := by decide +kernel
theorem dX3_shrink_8 : decode cX3_shrink 8 = .ok (.getfield 28, 3) := by decide +kernel
theorem dX3_shrink_11 : decode cX3_shrink 11 = .ok (.iconst 2, 1) := by decide +kernel
theorem dX3_shrink_12 : decode cX3_shrink 12 = .ok (.idiv, 1) := by decide +kernel
theorem dX3_shrink_13 : decode cX3_shrink 13 = .ok (.istore_n 3, 1) := by decide +kernel
theorem dX3_shrink_14 : decode cX3_shrink 14 = .ok (.iconst 0, 1) := by decide +kernel
theorem dX3_shrink_15 : decode cX3_shrink 15 = .ok (.istore 4, 2) := by decide +kernel
theorem dX3_shrink_17 : decode cX3_shrink 17 = .ok (.iload 4, 2) := by decide +kernel
theorem dX3_shrink_19 : decode cX3_shrink 19 = .ok (.iload_n 3, 1) := by decide +kernel
theorem dX3_shrink_20 : decode cX3_shrink 20 = .ok (.if_icmp .ge 120, 3) := by decide +kernel
theorem dX3_shrink_23 : decode cX3_shrink 23 = .ok (.iconst 0, 1) := by decide +kernel
theorem dX3_shrink_24 : decode cX3_shrink 24 = .ok (.istore 5, 2) := by decide +kernel
theorem dX3_shrink_26 : decode cX3_shrink 26 = .ok (.iload 5, 2) := by decide +kernel
theorem dX3_shrink_28 : decode cX3_shrink 28 = .ok (.iload_n 2, 1) := by decide +kernel
theorem dX3_shrink_29 : decode cX3_shrink 29 = .ok (.if_icmp .ge 105, 3) := by decide +kernel
theorem dX3_shrink_32 : decode cX3_shrink 32 = .ok (.iconst 2, 1) := by decide +kernel
theorem dX3_shrink_33 : decode cX3_shrink 33 = .ok (.iload 4, 2) := by decide +kernel
theorem dX3_shrink_35 : decode cX3_shrink 35 = .ok (.imul, 1) := by decide +kernel
theorem dX3_shrink_36 : decode cX3_shrink 36 = .ok (.aload_n 0, 1) := by decide +kernel
theorem dX3_shrink_37 : decode cX3_shrink 37 = .ok (.getfield 25, 3) := by decide +kernel
theorem dX3_shrink_40 : decode cX3_shrink 40 = .ok (.imul, 1) := by decide +kernel
theorem dX3_shrink_41 : decode cX3_shrink 41 = .ok (.iconst 2, 1) := by decide +kernel
theorem dX3_shrink_42 : decode cX3_shrink 42 = .ok (.iload 5, 2) := by decide +kernel
theorem dX3_shrink_44 : decode cX3_shrink 44 = .ok (.imul, 1) := by decide +kernel
theorem dX3_shrink_45 : decode cX3_shrink 45 = .ok (.iadd, 1) := by decide +kernel
theorem dX3_shrink_46 : decode cX3_shrink 46 = .ok (.istore 6, 2) := by decide +kernel
theorem dX3_shrink_48 : decode cX3_shrink 48 = .ok (.iload 4, 2) := by decide +kernel
theorem dX3_shrink_50 : decode cX3_shrink 50 = .ok (.iload_n 2, 1) := by decide +kernel
theorem dX3_shrink_51 : decode cX3_shrink 51 = .ok (.imul, 1) := by decide +kernel
theorem dX3_shrink_52 : decode cX3_shrink 52 = .ok (.iload 5, 2) := by decide +kernel
theorem dX3_shrink_54 : decode cX3_shrink 54 = .ok (.iadd, 1) := by decide +kernel
theorem dX3_shrink_55 : decode cX3_shrink 55 = .ok (.istore 7, 2) := by decide +kernel
theorem dX3_shrink_57 : decode cX3_shrink 57 = .ok (.iload 7, 2) := by decide +kernel
theorem dX3_shrink_59 : decode cX3_shrink 59 = .ok (.ifCond .lt 69, 3) := by decide +kernel
theorem dX3_shrink_62 : decode cX3_shrink 62 = .ok (.iload 7, 2) := by decide +kernel
theorem dX3_shrink_64 : decode cX3_shrink 64 = .ok (.iload 6, 2) := by decide +kernel
theorem dX3_shrink_66 : decode cX3_shrink 66 = .ok (.if_icmp .gt 62, 3) := by decide +kernel
theorem dX3_shrink_69 : decode cX3_shrink 69 = .ok (.iload 6, 2) := by decide +kernel
theorem dX3_shrink_71 : decode cX3_shrink 71 = .ok (.aload_n 0, 1) := by decide +kernel
theorem dX3_shrink_72 : decode cX3_shrink 72 = .ok (.getfield 25, 3) := by decide +kernel
theorem dX3_shrink_75 : decode cX3_shrink 75 = .ok (.iadd, 1) := by decide +kernel
theorem dX3_shrink_76 : decode cX3_shrink 76 = .ok (.iconst 1, 1) := by decide +kernel
theorem dX3_shrink_77 : decode cX3_shrink 77 = .ok (.iadd, 1) := by decide +kernel
theorem dX3_shrink_78 : decode cX3_shrink 78 = .ok (.aload_n 1, 1) := by decide +kernel
theorem dX3_shrink_79 : decode cX3_shrink 79 = .ok (.arraylength, 1) := by decide +kernel
theorem dX3_shrink_80 : decode cX3_shrink 80 = .ok (.if_icmp .ge 48, 3) := by decide +kernel
theorem dX3_shrink_83 : decode cX3_shrink 83 = .ok (.aload_n 1, 1) := by decide +kernel
theorem dX3_shrink_84 : decode cX3_shrink 84 = .ok (.iload 6, 2) := by decide +kernel
theorem dX3_shrink_86 : decode cX3_shrink 86 = .ok (.iaload, 1) := by decide +kernel
theorem dX3_shrink_87 : decode cX3_shrink 87 = .ok (.aload_n 1, 1) := by decide +kernel
theorem dX3_shrink_88 : decode cX3_shrink 88 = .ok (.iload 6, 2) := by decide +kernel
theorem dX3_shrink_90 : decode cX3_shrink 90 = .ok (.iconst 1, 1) := by decide +kernel
theorem dX3_shrink_91 : decode cX3_shrink 91 = .ok (.iadd, 1) := by decide +kernel
theorem dX3_shrink_92 : decode cX3_shrink 92 = .ok (.iaload, 1) := by decide +kernel
theorem dX3_shrink_93 : decode cX3_shrink 93 = .ok (.iadd, 1) := by decide +kernel
theorem dX3_shrink_94 : decode cX3_shrink 94 = .ok (.aload_n 1, 1) := by decide +kernel
theorem dX3_shrink_95 : decode cX3_shrink 95 = .ok (.iload 6, 2) := by decide +kernel
theorem dX3_shrink_97 : decode cX3_shrink 97 = .ok (.aload_n 0, 1) := by decide +kernel
theorem dX3_shrink_98 : decode cX3_shrink 98 = .ok (.getfield 25, 3) := by decide +kernel
theorem dX3_shrink_101 : decode cX3_shrink 101 = .ok (.iadd, 1) := by decide +kernel
theorem dX3_shrink_102 : decode cX3_shrink 102 = .ok (.iaload, 1) := by decide +kernel
theorem dX3_shrink_103 : decode cX3_shrink 103 = .ok (.iadd, 1) := by decide +kernel
theorem dX3_shrink_104 : decode cX3_shrink 104 = .ok (.aload_n 1, 1) := by decide +kernel
theorem dX3_shrink_105 : decode cX3_shrink 105 = .ok (.iload 6, 2) := by decide +kernel
theorem dX3_shrink_107 : decode cX3_shrink 107 = .ok (.aload_n 0, 1) := by decide +kernel
theorem dX3_shrink_108 : decode cX3_shrink 108 = .ok (.getfield 25, 3) := by decide +kernel
theorem dX3_shrink_111 : decode cX3_shrink 111 = .ok (.iadd, 1) := by decide +kernel
theorem dX3_shrink_112 : decode cX3_shrink 112 = .ok (.iconst 1, 1) := by decide +kernel
theorem dX3_shrink_113 : decode cX3_shrink 113 = .ok (.iadd, 1) := by decide +kernel
theorem dX3_shrink_114 : decode cX3_shrink 114 = .ok (.iaload, 1) := by decide +kernel
theorem dX3_shrink_115 : decode cX3_shrink 115 = .ok (.iadd, 1) := by decide +kernel
theorem dX3_shrink_116 : decode cX3_shrink 116 = .ok (.istore 8, 2) := by decide +kernel
theorem dX3_shrink_118 : decode cX3_shrink 118 = .ok (.aload_n 1, 1) := by decide +kernel
theorem dX3_shrink_119 : decode cX3_shrink 119 = .ok (.iload 7, 2) := by decide +kernel
theorem dX3_shrink_121 : decode cX3_shrink 121 = .ok (.iload 8, 2) := by decide +kernel
theorem dX3_shrink_123 : decode cX3_shrink 123 = .ok (.iconst 2, 1) := by decide +kernel
theorem dX3_shrink_124 : decode cX3_shrink 124 = .ok (.iadd, 1) := by decide +kernel
theorem dX3_shrink_125 : decode cX3_shrink 125 = .ok (.iconst 4, 1) := by decide +kernel
theorem dX3_shrink_126 : decode cX3_shrink 126 = .ok (.idiv, 1) := by decide +kernel
theorem dX3_shrink_127 : decode cX3_shrink 127 = .ok (.iastore, 1) := by decide +kernel
theorem dX3_shrink_128 : decode cX3_shrink 128 = .ok (.iinc 5 1, 3) := by decide +kernel
theorem dX3_shrink_131 : decode cX3_shrink 131 = .ok (.goto (-105), 3) := by decide +kernel
theorem dX3_shrink_134 : decode cX3_shrink 134 = .ok (.iinc 4 1, 3) := by decide +kernel
theorem dX3_shrink_137 : decode cX3_shrink 137 = .ok (.goto (-120), 3) := by decide +kernel
theorem dX3_shrink_140 : decode cX3_shrink 140 = .ok (.return_, 1) := by decide +kernel
set_option maxRecDepth 20000 in
theorem ggX3_averageLikeness_X3_likenessAt : GoodIn wsX3_averageLikeness wsX3_likenessAt := goodIn_r _ [7, 2, 8, 9, 10, 11, 12, 6, 13, 14, 15, 16, 17, 18, 19, 20, 21, 22] (by decide +kernel) (by decide +kernel)
set_option maxRecDepth 20000 in
theorem gX3_averageLikeness_X3_likenessAt : GoodIn wsX3_averageLikeness (wsV RX3 41 RX3 yX3_likenessAt wsX3_likenessAt) := goodIn_app (goodIn_of _ (by decide +kernel)) ggX3_averageLikeness_X3_likenessAt
theorem dX3_averageLikeness_0 : decode cX3_averageLikeness 0 = .ok (.dconst 0, 1) := by decide +kernel
theorem dX3_averageLikeness_1 : decode cX3_averageLikeness 1 = .ok (.dstore_n 1, 1) := by decide +kernel
theorem dX3_averageLikeness_2 : decode cX3_averageLikeness 2 = .ok (.iconst 0, 1) := by decide +kernel
theorem dX3_averageLikeness_3 : decode cX3_averageLikeness 3 = .ok (.istore_n 3, 1) := by decide +kernel
theorem dX3_averageLikeness_4 : decode cX3_averageLikeness 4 = .ok (.iconst 0, 1) := by decide +kernel
theorem dX3_averageLikeness_5 : decode cX3_averageLikeness 5 = .ok (.istore 4, 2) := by decide +kernel
theorem dX3_averageLikeness_7 : decode cX3_averageLikeness 7 = .ok (.iload 4, 2) := by decide +kernel
theorem dX3_averageLikeness_9 : decode cX3_averageLikeness 9 = .ok (.aload_n 0, 1) := by decide +kernel
theorem dX3_averageLikeness_10 : decode cX3_averageLikeness 10 = .ok (.getfield 28, 3) := by decide +kernel
theorem dX3_averageLikeness_13 : decode cX3_averageLikeness 13 = .ok (.iconst 5, 1) := by decide +kernel
theorem dX3_averageLikeness_14 : decode cX3_averageLikeness 14 = .ok (.isub, 1) := by decide +kernel
theorem dX3_averageLikeness_15 : decode cX3_averageLikeness 15 = .ok (.if_icmp .gt 43, 3) := by decide +kernel
theorem dX3_averageLikeness_18 : decode cX3_averageLikeness 18 = .ok (.iconst 0, 1) := by decide +kernel
theorem dX3_averageLikeness_19 : decode cX3_averageLikeness 19 = .ok (.istore 5, 2) := by decide +kernel
theorem dX3_averageLikeness_21 : decode cX3_averageLikeness 21 = .ok (.iload 5, 2) := by decide +kernel
theorem dX3_averageLikeness_23 : decode cX3_averageLikeness 23 = .ok (.aload_n 0, 1) := by decide +kernel
theorem dX3_averageLikeness_24 : decode cX3_averageLikeness 24 = .ok (.getfield 25, 3) := by decide +kernel
theorem dX3_averageLikeness_27 : decode cX3_averageLikeness 27 = .ok (.iconst 5, 1) := by decide +kernel
theorem dX3_averageLikeness_28 : decode cX3_averageLikeness 28 = .ok (.isub, 1) := by decide +kernel
theorem dX3_averageLikeness_29 : decode cX3_averageLikeness 29 = .ok (.if_icmp .gt 23, 3) := by decide +kernel
theorem dX3_averageLikeness_32 : decode cX3_averageLikeness 32 = .ok (.dload_n 1, 1) := by decide +kernel
theorem dX3_averageLikeness_33 : decode cX3_averageLikeness 33 = .ok (.aload_n 0, 1) := by decide +kernel
theorem dX3_averageLikeness_34 : decode cX3_averageLikeness 34 = .ok (.iload 5, 2) := by decide +kernel
theorem dX3_averageLikeness_36 : decode cX3_averageLikeness 36 = .ok (.iload 4, 2) := by decide +kernel
theorem dX3_averageLikeness_38 : decode cX3_averageLikeness 38 = .ok (.invokevirtual 41, 3) := by decide +kernel
theorem dX3_averageLikeness_41 : decode cX3_averageLikeness 41 = .ok (.dadd, 1) := by decide +kernel
theorem dX3_averageLikeness_42 : decode cX3_averageLikeness 42 = .ok (.dstore_n 1, 1) := by decide +kernel
theorem dX3_averageLikeness_43 : decode cX3_averageLikeness 43 = .ok (.iinc 3 1, 3) := by decide +kernel
theorem dX3_averageLikeness_46 : decode cX3_averageLikeness 46 = .ok (.iinc 5 1, 3) := by decide +kernel
theorem dX3_averageLikeness_49 : decode cX3_averageLikeness 49 = .ok (.goto (-28), 3) := by decide +kernel
theorem dX3_averageLikeness_52 : decode cX3_averageLikeness 52 = .ok (.iinc 4 1, 3) := by decide +kernel
theorem dX3_averageLikeness_55 : decode cX3_averageLikeness 55 = .ok (.goto (-48), 3) := by decide +kernel
theorem dX3_averageLikeness_58 : decode cX3_averageLikeness 58 = .ok (.iload_n 3, 1) := by decide +kernel
theorem dX3_averageLikeness_59 : decode cX3_averageLikeness 59 = .ok (.ifCond .le 10, 3) := by decide +kernel
theorem dX3_averageLikeness_62 : decode cX3_averageLikeness 62 = .ok (.dload_n 1, 1) := by decide +kernel
theorem dX3_averageLikeness_63 : decode cX3_averageLikeness 63 = .ok (.iload_n 3, 1) := by decide +kernel
theorem dX3_averageLikeness_64 : decode cX3_averageLikeness 64 = .ok (.i2d, 1) := by decide +kernel
theorem dX3_averageLikeness_65 : decode cX3_averageLikeness 65 = .ok (.ddiv, 1) := by decide +kernel
theorem dX3_averageLikeness_66 : decode cX3_averageLikeness 66 = .ok (.goto 4, 3) := by decide +kernel
theorem dX3_averageLikeness_69 : decode cX3_averageLikeness 69 = .ok (.dconst 0, 1) := by decide +kernel
theorem dX3_averageLikeness_70 : decode cX3_averageLikeness 70 = .ok (.dreturn, 1) := by decide +kernel
set_option maxRecDepth 20000 in
theorem ggX3_likenessAt_X3_ratio : GoodIn wsX3_likenessAt wsX3_ratio := goodIn_r _ [8, 9, 10, 11] (by decide +kernel) (by decide +kernel)
set_option maxRecDepth 20000 in
theorem gX3_likenessAt_X3_ratio : GoodIn wsX3_likenessAt (va_wsS RX3 50 yX3_ratio wsX3_ratio) := goodIn_app (goodIn_of _ (by decide +kernel)) ggX3_likenessAt_X3_ratio
theorem dX3_likenessAt_0 : decode cX3_likenessAt 0 = .ok (.lconst 0, 1) := by decide +kernel
theorem dX3_likenessAt_1 : decode cX3_likenessAt 1 = .ok (.lstore_n 3, 1) := by decide +kernel
theorem dX3_likenessAt_2 : decode cX3_likenessAt 2 = .ok (.lconst 0, 1) := by decide +kernel
theorem dX3_likenessAt_3 : decode cX3_likenessAt 3 = .ok (.lstore 5, 2) := by decide +kernel
theorem dX3_likenessAt_5 : decode cX3_likenessAt 5 = .ok (.lconst 0, 1) := by decide +kernel
theorem dX3_likenessAt_6 : decode cX3_likenessAt 6 = .ok (.lstore 7, 2) := by decide +kernel
theorem dX3_likenessAt_8 : decode cX3_likenessAt 8 = .ok (.lconst 0, 1) := by decide +kernel
theorem dX3_likenessAt_9 : decode cX3_likenessAt 9 = .ok (.lstore 9, 2) := by decide +kernel
theorem dX3_likenessAt_11 : decode cX3_likenessAt 11 = .ok (.lconst 0, 1) := by decide +kernel
theorem dX3_likenessAt_12 : decode cX3_likenessAt 12 = .ok (.lstore 11, 2) := by decide +kernel
theorem dX3_likenessAt_14 : decode cX3_likenessAt 14 = .ok (.iconst 0, 1) := by decide +kernel
theorem dX3_likenessAt_15 : decode cX3_likenessAt 15 = .ok (.istore 13, 2) := by decide +kernel
theorem dX3_likenessAt_17 : decode cX3_likenessAt 17 = .ok (.iload 13, 2) := by decide +kernel
theorem dX3_likenessAt_19 : decode cX3_likenessAt 19 = .ok (.getstatic 45, 3) := by decide +kernel
theorem dX3_likenessAt_22 : decode cX3_likenessAt 22 = .ok (.arraylength, 1) := by decide +kernel
theorem dX3_likenessAt_23 : decode cX3_likenessAt 23 = .ok (.if_icmp .ge 166, 3) := by decide +kernel
theorem dX3_likenessAt_26 : decode cX3_likenessAt 26 = .ok (.iload_n 2, 1) := by decide +kernel
theorem dX3_likenessAt_27 : decode cX3_likenessAt 27 = .ok (.iload 13, 2) := by decide +kernel
theorem dX3_likenessAt_29 : decode cX3_likenessAt 29 = .ok (.iadd, 1) := by decide +kernel
theorem dX3_likenessAt_30 : decode cX3_likenessAt 30 = .ok (.aload_n 0, 1) := by decide +kernel
theorem dX3_likenessAt_31 : decode cX3_likenessAt 31 = .ok (.getfield 25, 3) := by decide +kernel
theorem dX3_likenessAt_34 : decode cX3_likenessAt 34 = .ok (.imul, 1) := by decide +kernel
theorem dX3_likenessAt_35 : decode cX3_likenessAt 35 = .ok (.iload_n 1, 1) := by decide +kernel
theorem dX3_likenessAt_36 : decode cX3_likenessAt 36 = .ok (.iadd, 1) := by decide +kernel
theorem dX3_likenessAt_37 : decode cX3_likenessAt 37 = .ok (.istore 14, 2) := by decide +kernel
theorem dX3_likenessAt_39 : decode cX3_likenessAt 39 = .ok (.iconst 0, 1) := by decide +kernel
theorem dX3_likenessAt_40 : decode cX3_likenessAt 40 = .ok (.istore 15, 2) := by decide +kernel
theorem dX3_likenessAt_42 : decode cX3_likenessAt 42 = .ok (.iload 15, 2) := by decide +kernel
theorem dX3_likenessAt_44 : decode cX3_likenessAt 44 = .ok (.getstatic 45, 3) := by decide +kernel
theorem dX3_likenessAt_47 : decode cX3_likenessAt 47 = .ok (.arraylength, 1) := by decide +kernel
theorem dX3_likenessAt_48 : decode cX3_likenessAt 48 = .ok (.if_icmp .ge 135, 3) := by decide +kernel
theorem dX3_likenessAt_51 : decode cX3_likenessAt 51 = .ok (.iload 14, 2) := by decide +kernel
theorem dX3_likenessAt_53 : decode cX3_likenessAt 53 = .ok (.iload 15, 2) := by decide +kernel
theorem dX3_likenessAt_55 : decode cX3_likenessAt 55 = .ok (.iadd, 1) := by decide +kernel
theorem dX3_likenessAt_56 : decode cX3_likenessAt 56 = .ok (.istore 16, 2) := by decide +kernel
theorem dX3_likenessAt_58 : decode cX3_likenessAt 58 = .ok (.iload 16, 2) := by decide +kernel
theorem dX3_likenessAt_60 : decode cX3_likenessAt 60 = .ok (.ifCond .lt 117, 3) := by decide +kernel
theorem dX3_likenessAt_63 : decode cX3_likenessAt 63 = .ok (.iload 16, 2) := by decide +kernel
theorem dX3_likenessAt_65 : decode cX3_likenessAt 65 = .ok (.aload_n 0, 1) := by decide +kernel
theorem dX3_likenessAt_66 : decode cX3_likenessAt 66 = .ok (.getfield 18, 3) := by decide +kernel
theorem dX3_likenessAt_69 : decode cX3_likenessAt 69 = .ok (.arraylength, 1) := by decide +kernel
theorem dX3_likenessAt_70 : decode cX3_likenessAt 70 = .ok (.if_icmp .ge 107, 3) := by decide +kernel
theorem dX3_likenessAt_73 : decode cX3_likenessAt 73 = .ok (.iload 16, 2) := by decide +kernel
theorem dX3_likenessAt_75 : decode cX3_likenessAt 75 = .ok (.aload_n 0, 1) := by decide +kernel
theorem dX3_likenessAt_76 : decode cX3_likenessAt 76 = .ok (.getfield 22, 3) := by decide +kernel
theorem dX3_likenessAt_79 : decode cX3_likenessAt 79 = .ok (.arraylength, 1) := by decide +kernel
theorem dX3_likenessAt_80 : decode cX3_likenessAt 80 = .ok (.if_icmp .ge 97, 3) := by decide +kernel
theorem dX3_likenessAt_83 : decode cX3_likenessAt 83 = .ok (.getstatic 45, 3) := by decide +kernel
theorem dX3_likenessAt_86 : decode cX3_likenessAt 86 = .ok (.iload 13, 2) := by decide +kernel
theorem dX3_likenessAt_88 : decode cX3_likenessAt 88 = .ok (.iaload, 1) := by decide +kernel
theorem dX3_likenessAt_89 : decode cX3_likenessAt 89 = .ok (.getstatic 45, 3) := by decide +kernel
theorem dX3_likenessAt_92 : decode cX3_likenessAt 92 = .ok (.iload 15, 2) := by decide +kernel
theorem dX3_likenessAt_94 : decode cX3_likenessAt 94 = .ok (.iaload, 1) := by decide +kernel
theorem dX3_likenessAt_95 : decode cX3_likenessAt 95 = .ok (.imul, 1) := by decide +kernel
theorem dX3_likenessAt_96 : decode cX3_likenessAt 96 = .ok (.istore 17, 2) := by decide +kernel
theorem dX3_likenessAt_98 : decode cX3_likenessAt 98 = .ok (.aload_n 0, 1) := by decide +kernel
theorem dX3_likenessAt_99 : decode cX3_likenessAt 99 = .ok (.getfield 18, 3) := by decide +kernel
theorem dX3_likenessAt_102 : decode cX3_likenessAt 102 = .ok (.iload 16, 2) := by decide +kernel
theorem dX3_likenessAt_104 : decode cX3_likenessAt 104 = .ok (.iaload, 1) := by decide +kernel
theorem dX3_likenessAt_105 : decode cX3_likenessAt 105 = .ok (.istore 18, 2) := by decide +kernel
theorem dX3_likenessAt_107 : decode cX3_likenessAt 107 = .ok (.aload_n 0, 1) := by decide +kernel
theorem dX3_likenessAt_108 : decode cX3_likenessAt 108 = .ok (.getfield 22, 3) := by decide +kernel
theorem dX3_likenessAt_111 : decode cX3_likenessAt 111 = .ok (.iload 16, 2) := by decide +kernel
theorem dX3_likenessAt_113 : decode cX3_likenessAt 113 = .ok (.iaload, 1) := by decide +kernel
theorem dX3_likenessAt_114 : decode cX3_likenessAt 114 = .ok (.istore 19, 2) := by decide +kernel
theorem dX3_likenessAt_116 : decode cX3_likenessAt 116 = .ok (.iload 17, 2) := by decide +kernel
theorem dX3_likenessAt_118 : decode cX3_likenessAt 118 = .ok (.iload 18, 2) := by decide +kernel
theorem dX3_likenessAt_120 : decode cX3_likenessAt 120 = .ok (.imul, 1) := by decide +kernel
theorem dX3_likenessAt_121 : decode cX3_likenessAt 121 = .ok (.istore 20, 2) := by decide +kernel
theorem dX3_likenessAt_123 : decode cX3_likenessAt 123 = .ok (.iload 17, 2) := by decide +kernel
theorem dX3_likenessAt_125 : decode cX3_likenessAt 125 = .ok (.iload 19, 2) := by decide +kernel
theorem dX3_likenessAt_127 : decode cX3_likenessAt 127 = .ok (.imul, 1) := by decide +kernel
theorem dX3_likenessAt_128 : decode cX3_likenessAt 128 = .ok (.istore 21, 2) := by decide +kernel
theorem dX3_likenessAt_130 : decode cX3_likenessAt 130 = .ok (.lload_n 3, 1) := by decide +kernel
theorem dX3_likenessAt_131 : decode cX3_likenessAt 131 = .ok (.iload 20, 2) := by decide +kernel
theorem dX3_likenessAt_133 : decode cX3_likenessAt 133 = .ok (.i2l, 1) := by decide +kernel
theorem dX3_likenessAt_134 : decode cX3_likenessAt 134 = .ok (.ladd, 1) := by decide +kernel
theorem dX3_likenessAt_135 : decode cX3_likenessAt 135 = .ok (.lstore_n 3, 1) := by decide +kernel
