theorem dX5_halve_66 : decode cX5_halve 66 = .ok (.iload 5, 2) := by decide +kernel
theorem dX5_halve_68 : decode cX5_halve 68 = .ok (.iconst 1, 1) := by decide +kernel
theorem dX5_halve_69 : decode cX5_halve 69 = .ok (.iadd, 1) := by decide +kernel
theorem dX5_halve_70 : decode cX5_halve 70 = .ok (.iaload, 1) := by decide +kernel
theorem dX5_halve_71 : decode cX5_halve 71 = .ok (.iadd, 1) := by decide +kernel
theorem dX5_halve_72 : decode cX5_halve 72 = .ok (.aload_n 0, 1) := by decide +kernel
theorem dX5_halve_73 : decode cX5_halve 73 = .ok (.getfield 16, 3) := by decide +kernel
theorem dX5_halve_76 : decode cX5_halve 76 = .ok (.iload 5, 2) := by decide +kernel
theorem dX5_halve_78 : decode cX5_halve 78 = .ok (.aload_n 0, 1) := by decide +kernel
theorem dX5_halve_79 : decode cX5_halve 79 = .ok (.getfield 70, 3) := by decide +kernel
theorem dX5_halve_82 : decode cX5_halve 82 = .ok (.iadd, 1) := by decide +kernel
theorem dX5_halve_83 : decode cX5_halve 83 = .ok (.iaload, 1) := by decide +kernel
theorem dX5_halve_84 : decode cX5_halve 84 = .ok (.iadd, 1) := by decide +kernel
theorem dX5_halve_85 : decode cX5_halve 85 = .ok (.aload_n 0, 1) := by decide +kernel
theorem dX5_halve_86 : decode cX5_halve 86 = .ok (.getfield 16, 3) := by decide +kernel
theorem dX5_halve_89 : decode cX5_halve 89 = .ok (.iload 5, 2) := by decide +kernel
theorem dX5_halve_91 : decode cX5_halve 91 = .ok (.aload_n 0, 1) := by decide +kernel
theorem dX5_halve_92 : decode cX5_halve 92 = .ok (.getfield 70, 3) := by decide +kernel
theorem dX5_halve_95 : decode cX5_halve 95 = .ok (.iadd, 1) := by decide +kernel
theorem dX5_halve_96 : decode cX5_halve 96 = .ok (.iconst 1, 1) := by decide +kernel
theorem dX5_halve_97 : decode cX5_halve 97 = .ok (.iadd, 1) := by decide +kernel
theorem dX5_halve_98 : decode cX5_halve 98 = .ok (.iaload, 1) := by decide +kernel
theorem dX5_halve_99 : decode cX5_halve 99 = .ok (.iadd, 1) := by decide +kernel
theorem dX5_halve_100 : decode cX5_halve 100 = .ok (.iconst 2, 1) := by decide +kernel
theorem dX5_halve_101 : decode cX5_halve 101 = .ok (.iadd, 1) := by decide +kernel
theorem dX5_halve_102 : decode cX5_halve 102 = .ok (.iconst 4, 1) := by decide +kernel
theorem dX5_halve_103 : decode cX5_halve 103 = .ok (.idiv, 1) := by decide +kernel
theorem dX5_halve_104 : decode cX5_halve 104 = .ok (.iastore, 1) := by decide +kernel
theorem dX5_halve_105 : decode cX5_halve 105 = .ok (.aload_n 0, 1) := by decide +kernel
theorem dX5_halve_106 : decode cX5_halve 106 = .ok (.getfield 19, 3) := by decide +kernel
theorem dX5_halve_109 : decode cX5_halve 109 = .ok (.iload_n 1, 1) := by decide +kernel
theorem dX5_halve_110 : decode cX5_halve 110 = .ok (.iload_n 3, 1) := by decide +kernel
theorem dX5_halve_111 : decode cX5_halve 111 = .ok (.imul, 1) := by decide +kernel
theorem dX5_halve_112 : decode cX5_halve 112 = .ok (.iload 4, 2) := by decide +kernel
theorem dX5_halve_114 : decode cX5_halve 114 = .ok (.iadd, 1) := by decide +kernel
theorem dX5_halve_115 : decode cX5_halve 115 = .ok (.aload_n 0, 1) := by decide +kernel
theorem dX5_halve_116 : decode cX5_halve 116 = .ok (.getfield 19, 3) := by decide +kernel
theorem dX5_halve_119 : decode cX5_halve 119 = .ok (.iload 5, 2) := by decide +kernel
theorem dX5_halve_121 : decode cX5_halve 121 = .ok (.iaload, 1) := by decide +kernel
theorem dX5_halve_122 : decode cX5_halve 122 = .ok (.aload_n 0, 1) := by decide +kernel
theorem dX5_halve_123 : decode cX5_halve 123 = .ok (.getfield 19, 3) := by decide +kernel
theorem dX5_halve_126 : decode cX5_halve 126 = .ok (.iload 5, 2) := by decide +kernel
theorem dX5_halve_128 : decode cX5_halve 128 = .ok (.iconst 1, 1) := by decide +kernel
theorem dX5_halve_129 : decode cX5_halve 129 = .ok (.iadd, 1) := by decide +kernel
theorem dX5_halve_130 : decode cX5_halve 130 = .ok (.iaload, 1) := by decide +kernel
theorem dX5_halve_131 : decode cX5_halve 131 = .ok (.iadd, 1) := by decide +kernel
theorem dX5_halve_132 : decode cX5_halve 132 = .ok (.aload_n 0, 1) := by decide +kernel
theorem dX5_halve_133 : decode cX5_halve 133 = .ok (.getfield 19, 3) := by decide +kernel
theorem dX5_halve_136 : decode cX5_halve 136 = .ok (.iload 5, 2) := by decide +kernel
theorem dX5_halve_138 : decode cX5_halve 138 = .ok (.aload_n 0, 1) := by decide +kernel
theorem dX5_halve_139 : decode cX5_halve 139 = .ok (.getfield 70, 3) := by decide +kernel
theorem dX5_halve_142 : decode cX5_halve 142 = .ok (.iadd, 1) := by decide +kernel
theorem dX5_halve_143 : decode cX5_halve 143 = .ok (.iaload, 1) := by decide +kernel
theorem dX5_halve_144 : decode cX5_halve 144 = .ok (.iadd, 1) := by decide +kernel
theorem dX5_halve_145 : decode cX5_halve 145 = .ok (.aload_n 0, 1) := by decide +kernel
theorem dX5_halve_146 : decode cX5_halve 146 = .ok (.getfield 19, 3) := by decide +kernel
theorem dX5_halve_149 : decode cX5_halve 149 = .ok (.iload 5, 2) := by decide +kernel
theorem dX5_halve_151 : decode cX5_halve 151 = .ok (.aload_n 0, 1) := by decide +kernel
theorem dX5_halve_152 : decode cX5_halve 152 = .ok (.getfield 70, 3) := by decide +kernel
theorem dX5_halve_155 : decode cX5_halve 155 = .ok (.iadd, 1) := by decide +kernel
theorem dX5_halve_156 : decode cX5_halve 156 = .ok (.iconst 1, 1) := by decide +kernel
theorem dX5_halve_157 : decode cX5_halve 157 = .ok (.iadd, 1) := by decide +kernel
theorem dX5_halve_158 : decode cX5_halve 158 = .ok (.iaload, 1) := by decide +kernel
theorem dX5_halve_159 : decode cX5_halve 159 = .ok (.iadd, 1) := by decide +kernel
theorem dX5_halve_160 : decode cX5_halve 160 = .ok (.iconst 2, 1) := by decide +kernel
theorem dX5_halve_161 : decode cX5_halve 161 = .ok (.iadd, 1) := by decide +kernel
theorem dX5_halve_162 : decode cX5_halve 162 = .ok (.iconst 4, 1) := by decide +kernel
theorem dX5_halve_163 : decode cX5_halve 163 = .ok (.idiv, 1) := by decide +kernel
theorem dX5_halve_164 : decode cX5_halve 164 = .ok (.iastore, 1) := by decide +kernel
theorem dX5_halve_165 : decode cX5_halve 165 = .ok (.iinc 4 1, 3) := by decide +kernel
theorem dX5_halve_168 : decode cX5_halve 168 = .ok (.goto (-144), 3) := by decide +kernel
theorem dX5_halve_171 : decode cX5_halve 171 = .ok (.iinc 3 1, 3) := by decide +kernel
theorem dX5_halve_174 : decode cX5_halve 174 = .ok (.goto (-158), 3) := by decide +kernel
theorem dX5_halve_177 : decode cX5_halve 177 = .ok (.aload_n 0, 1) := by decide +kernel
theorem dX5_halve_178 : decode cX5_halve 178 = .ok (.iload_n 1, 1) := by decide +kernel
theorem dX5_halve_179 : decode cX5_halve 179 = .ok (.putfield 70, 3) := by decide +kernel
theorem dX5_halve_182 : decode cX5_halve 182 = .ok (.aload_n 0, 1) := by decide +kernel
theorem dX5_halve_183 : decode cX5_halve 183 = .ok (.iload_n 2, 1) := by decide +kernel
theorem dX5_halve_184 : decode cX5_halve 184 = .ok (.putfield 73, 3) := by decide +kernel
theorem dX5_halve_187 : decode cX5_halve 187 = .ok (.return_, 1) := by decide +kernel
theorem dX5_scales_0 : decode cX5_scales 0 = .ok (.iconst 0, 1) := by decide +kernel
theorem dX5_scales_1 : decode cX5_scales 1 = .ok (.istore_n 1, 1) := by decide +kernel
theorem dX5_scales_2 : decode cX5_scales 2 = .ok (.aload_n 0, 1) := by decide +kernel
theorem dX5_scales_3 : decode cX5_scales 3 = .ok (.getfield 38, 3) := by decide +kernel
theorem dX5_scales_6 : decode cX5_scales 6 = .ok (.iload_n 1, 1) := by decide +kernel
theorem dX5_scales_7 : decode cX5_scales 7 = .ok (.ishr, 1) := by decide +kernel
theorem dX5_scales_8 : decode cX5_scales 8 = .ok (.iconst 5, 1) := by decide +kernel
theorem dX5_scales_9 : decode cX5_scales 9 = .ok (.if_icmp .lt 19, 3) := by decide +kernel
theorem dX5_scales_12 : decode cX5_scales 12 = .ok (.aload_n 0, 1) := by decide +kernel
theorem dX5_scales_13 : decode cX5_scales 13 = .ok (.getfield 42, 3) := by decide +kernel
theorem dX5_scales_16 : decode cX5_scales 16 = .ok (.iload_n 1, 1) := by decide +kernel
theorem dX5_scales_17 : decode cX5_scales 17 = .ok (.ishr, 1) := by decide +kernel
theorem dX5_scales_18 : decode cX5_scales 18 = .ok (.iconst 5, 1) := by decide +kernel
theorem dX5_scales_19 : decode cX5_scales 19 = .ok (.if_icmp .lt 9, 3) := by decide +kernel
theorem dX5_scales_22 : decode cX5_scales 22 = .ok (.iinc 1 1, 3) := by decide +kernel
theorem dX5_scales_25 : decode cX5_scales 25 = .ok (.goto (-23), 3) := by decide +kernel
theorem dX5_scales_28 : decode cX5_scales 28 = .ok (.iload_n 1, 1) := by decide +kernel
theorem dX5_scales_29 : decode cX5_scales 29 = .ok (.ireturn, 1) := by decide +kernel
theorem dX5_weight_0 : decode cX5_weight 0 = .ok (.iload_n 0, 1) := by decide +kernel
theorem dX5_weight_1 : decode cX5_weight 1 = .ok (.ifCond .eq 8, 3) := by decide +kernel
theorem dX5_weight_4 : decode cX5_weight 4 = .ok (.iload_n 0, 1) := by decide +kernel
theorem dX5_weight_5 : decode cX5_weight 5 = .ok (.iconst 4, 1) := by decide +kernel
theorem dX5_weight_6 : decode cX5_weight 6 = .ok (.if_icmp .ne 7, 3) := by decide +kernel
theorem dX5_weight_9 : decode cX5_weight 9 = .ok (.iconst 1, 1) := by decide +kernel
theorem dX5_weight_10 : decode cX5_weight 10 = .ok (.goto 14, 3) := by decide +kernel
theorem dX5_weight_13 : decode cX5_weight 13 = .ok (.iload_n 0, 1) := by decide +kernel
theorem dX5_weight_14 : decode cX5_weight 14 = .ok (.iconst 2, 1) := by decide +kernel
theorem dX5_weight_15 : decode cX5_weight 15 = .ok (.if_icmp .ne 8, 3) := by decide +kernel
theorem dX5_weight_18 : decode cX5_weight 18 = .ok (.bipush 6, 2) := by decide +kernel
theorem dX5_weight_20 : decode cX5_weight 20 = .ok (.goto 4, 3) := by decide +kernel
theorem dX5_weight_23 : decode cX5_weight 23 = .ok (.iconst 4, 1) := by decide +kernel
theorem dX5_weight_24 : decode cX5_weight 24 = .ok (.ireturn, 1) := by decide +kernel
set_option maxRecDepth 20000 in
theorem ggX5_cell_X5_weight : GoodIn wsX5_cell wsX5_weight := goodIn_r _ [11] (by decide +kernel) (by decide +kernel)
set_option maxRecDepth 20000 in
theorem gX5_cell_X5_weight : GoodIn wsX5_cell (va_wsS RX5 76 yX5_weight wsX5_weight) := goodIn_app (goodIn_of _ (by decide +kernel)) ggX5_cell_X5_weight
theorem dX5_cell_0 : decode cX5_cell 0 = .ok (.lconst 0, 1) := by decide +kernel
theorem dX5_cell_1 : decode cX5_cell 1 = .ok (.lstore_n 3, 1) := by decide +kernel
theorem dX5_cell_2 : decode cX5_cell 2 = .ok (.lconst 0, 1) := by decide +kernel
theorem dX5_cell_3 : decode cX5_cell 3 = .ok (.lstore 5, 2) := by decide +kernel
theorem dX5_cell_5 : decode cX5_cell 5 = .ok (.lconst 0, 1) := by decide +kernel
theorem dX5_cell_6 : decode cX5_cell 6 = .ok (.lstore 7, 2) := by decide +kernel
theorem dX5_cell_8 : decode cX5_cell 8 = .ok (.lconst 0, 1) := by decide +kernel
theorem dX5_cell_9 : decode cX5_cell 9 = .ok (.lstore 9, 2) := by decide +kernel
theorem dX5_cell_11 : decode cX5_cell 11 = .ok (.lconst 0, 1) := by decide +kernel
theorem dX5_cell_12 : decode cX5_cell 12 = .ok (.lstore 11, 2) := by decide +kernel
theorem dX5_cell_14 : decode cX5_cell 14 = .ok (.iconst 0, 1) := by decide +kernel
theorem dX5_cell_15 : decode cX5_cell 15 = .ok (.istore 13, 2) := by decide +kernel
theorem dX5_cell_17 : decode cX5_cell 17 = .ok (.iload 13, 2) := by decide +kernel
theorem dX5_cell_19 : decode cX5_cell 19 = .ok (.iconst 5, 1) := by decide +kernel
theorem dX5_cell_20 : decode cX5_cell 20 = .ok (.if_icmp .ge 139, 3) := by decide +kernel
theorem dX5_cell_23 : decode cX5_cell 23 = .ok (.iconst 0, 1) := by decide +kernel
theorem dX5_cell_24 : decode cX5_cell 24 = .ok (.istore 14, 2) := by decide +kernel
theorem dX5_cell_26 : decode cX5_cell 26 = .ok (.iload 14, 2) := by decide +kernel
theorem dX5_cell_28 : decode cX5_cell 28 = .ok (.iconst 5, 1) := by decide +kernel
theorem dX5_cell_29 : decode cX5_cell 29 = .ok (.if_icmp .ge 124, 3) := by decide +kernel
theorem dX5_cell_32 : decode cX5_cell 32 = .ok (.iload 14, 2) := by decide +kernel
theorem dX5_cell_34 : decode cX5_cell 34 = .ok (.invokestatic 76, 3) := by decide +kernel
theorem dX5_cell_37 : decode cX5_cell 37 = .ok (.iload 13, 2) := by decide +kernel
theorem dX5_cell_39 : decode cX5_cell 39 = .ok (.invokestatic 76, 3) := by decide +kernel
theorem dX5_cell_42 : decode cX5_cell 42 = .ok (.imul, 1) := by decide +kernel
theorem dX5_cell_43 : decode cX5_cell 43 = .ok (.i2l, 1) := by decide +kernel
theorem dX5_cell_44 : decode cX5_cell 44 = .ok (.lstore 15, 2) := by decide +kernel
theorem dX5_cell_46 : decode cX5_cell 46 = .ok (.aload_n 0, 1) := by decide +kernel
theorem dX5_cell_47 : decode cX5_cell 47 = .ok (.getfield 16, 3) := by decide +kernel
theorem dX5_cell_50 : decode cX5_cell 50 = .ok (.aload_n 0, 1) := by decide +kernel
theorem dX5_cell_51 : decode cX5_cell 51 = .ok (.getfield 70, 3) := by decide +kernel
theorem dX5_cell_54 : decode cX5_cell 54 = .ok (.iload_n 2, 1) := by decide +kernel
theorem dX5_cell_55 : decode cX5_cell 55 = .ok (.iload 13, 2) := by decide +kernel
theorem dX5_cell_57 : decode cX5_cell 57 = .ok (.iadd, 1) := by decide +kernel
theorem dX5_cell_58 : decode cX5_cell 58 = .ok (.imul, 1) := by decide +kernel
theorem dX5_cell_59 : decode cX5_cell 59 = .ok (.iload_n 1, 1) := by decide +kernel
theorem dX5_cell_60 : decode cX5_cell 60 = .ok (.iadd, 1) := by decide +kernel
theorem dX5_cell_61 : decode cX5_cell 61 = .ok (.iload 14, 2) := by decide +kernel
theorem dX5_cell_63 : decode cX5_cell 63 = .ok (.iadd, 1) := by decide +kernel
theorem dX5_cell_64 : decode cX5_cell 64 = .ok (.iaload, 1) := by decide +kernel
theorem dX5_cell_65 : decode cX5_cell 65 = .ok (.i2l, 1) := by decide +kernel
theorem dX5_cell_66 : decode cX5_cell 66 = .ok (.lstore 17, 2) := by decide +kernel
theorem dX5_cell_68 : decode cX5_cell 68 = .ok (.aload_n 0, 1) := by decide +kernel
theorem dX5_cell_69 : decode cX5_cell 69 = .ok (.getfield 19, 3) := by decide +kernel
theorem dX5_cell_72 : decode cX5_cell 72 = .ok (.aload_n 0, 1) := by decide +kernel
theorem dX5_cell_73 : decode cX5_cell 73 = .ok (.getfield 70, 3) := by decide +kernel
theorem dX5_cell_76 : decode cX5_cell 76 = .ok (.iload_n 2, 1) := by decide +kernel
theorem dX5_cell_77 : decode cX5_cell 77 = .ok (.iload 13, 2) := by decide +kernel
theorem dX5_cell_79 : decode cX5_cell 79 = .ok (.iadd, 1) := by decide +kernel
theorem dX5_cell_80 : decode cX5_cell 80 = .ok (.imul, 1) := by decide +kernel
theorem dX5_cell_81 : decode cX5_cell 81 = .ok (.iload_n 1, 1) := by decide +kernel
theorem dX5_cell_82 : decode cX5_cell 82 = .ok (.iadd, 1) := by decide +kernel
theorem dX5_cell_83 : decode cX5_cell 83 = .ok (.iload 14, 2) := by decide +kernel
theorem dX5_cell_85 : decode cX5_cell 85 = .ok (.iadd, 1) := by decide +kernel
theorem dX5_cell_86 : decode cX5_cell 86 = .ok (.iaload, 1) := by decide +kernel
theorem dX5_cell_87 : decode cX5_cell 87 = .ok (.i2l, 1) := by decide +kernel
theorem dX5_cell_88 : decode cX5_cell 88 = .ok (.lstore 19, 2) := by decide +kernel
theorem dX5_cell_90 : decode cX5_cell 90 = .ok (.lload_n 3, 1) := by decide +kernel
theorem dX5_cell_91 : decode cX5_cell 91 = .ok (.lload 15, 2) := by decide +kernel
theorem dX5_cell_93 : decode cX5_cell 93 = .ok (.lload 17, 2) := by decide +kernel
theorem dX5_cell_95 : decode cX5_cell 95 = .ok (.lmul, 1) := by decide +kernel
theorem dX5_cell_96 : decode cX5_cell 96 = .ok (.ladd, 1) := by decide +kernel
theorem dX5_cell_97 : decode cX5_cell 97 = .ok (.lstore_n 3, 1) := by decide +kernel
theorem dX5_cell_98 : decode cX5_cell 98 = .ok (.lload 5, 2) := by decide +kernel
theorem dX5_cell_100 : decode cX5_cell 100 = .ok (.lload 15, 2) := by decide +kernel
theorem dX5_cell_102 : decode cX5_cell 102 = .ok (.lload 19, 2) := by decide +kernel
theorem dX5_cell_104 : decode cX5_cell 104 = .ok (.lmul, 1) := by decide +kernel
theorem dX5_cell_105 : decode cX5_cell 105 = .ok (.ladd, 1) := by decide +kernel
theorem dX5_cell_106 : decode cX5_cell 106 = .ok (.lstore 5, 2) := by decide +kernel
theorem dX5_cell_108 : decode cX5_cell 108 = .ok (.lload 7, 2) := by decide +kernel
theorem dX5_cell_110 : decode cX5_cell 110 = .ok (.lload 15, 2) := by decide +kernel
theorem dX5_cell_112 : decode cX5_cell 112 = .ok (.lload 17, 2) := by decide +kernel
theorem dX5_cell_114 : decode cX5_cell 114 = .ok (.lmul, 1) := by decide +kernel
theorem dX5_cell_115 : decode cX5_cell 115 = .ok (.lload 17, 2) := by decide +kernel
theorem dX5_cell_117 : decode cX5_cell 117 = .ok (.lmul, 1) := by decide +kernel
theorem dX5_cell_118 : decode cX5_cell 118 = .ok (.ladd, 1) := by decide +kernel
theorem dX5_cell_119 : decode cX5_cell 119 = .ok (.lstore 7, 2) := by decide +kernel
theorem dX5_cell_121 : decode cX5_cell 121 = .ok (.lload 9, 2) := by decide +kernel
theorem dX5_cell_123 : decode cX5_cell 123 = .ok (.lload 15, 2) := by decide +kernel
theorem dX5_cell_125 : decode cX5_cell 125 = .ok (.lload 19, 2) := by decide +kernel
theorem dX5_cell_127 : decode cX5_cell 127 = .ok (.lmul, 1) := by decide +kernel
theorem dX5_cell_128 : decode cX5_cell 128 = .ok (.lload 19, 2) := by decide +kernel
theorem dX5_cell_130 : decode cX5_cell 130 = .ok (.lmul, 1) := by decide +kernel
theorem dX5_cell_131 : decode cX5_cell 131 = .ok (.ladd, 1) := by decide +kernel
theorem dX5_cell_132 : decode cX5_cell 132 = .ok (.lstore 9, 2) := by decide +kernel
theorem dX5_cell_134 : decode cX5_cell 134 = .ok (.lload 11, 2) := by decide +kernel
theorem dX5_cell_136 : decode cX5_cell 136 = .ok (.lload 15, 2) := by decide +kernel
theorem dX5_cell_138 : decode cX5_cell 138 = .ok (.lload 17, 2) := by decide +kernel
theorem dX5_cell_140 : decode cX5_cell 140 = .ok (.lmul, 1) := by decide +kernel
theorem dX5_cell_141 : decode cX5_cell 141 = .ok (.lload 19, 2) := by decide +kernel
theorem dX5_cell_143 : decode cX5_cell 143 = .ok (.lmul, 1) := by decide +kernel
theorem dX5_cell_144 : decode cX5_cell 144 = .ok (.ladd, 1) := by decide +kernel
theorem dX5_cell_145 : decode cX5_cell 145 = .ok (.lstore 11, 2) := by decide +kernel
theorem dX5_cell_147 : decode cX5_cell 147 = .ok (.iinc 14 1, 3) := by decide +kernel
theorem dX5_cell_150 : decode cX5_cell 150 = .ok (.goto (-124), 3) := by decide +kernel
theorem dX5_cell_153 : decode cX5_cell 153 = .ok (.iinc 13 1, 3) := by decide +kernel
theorem dX5_cell_156 : decode cX5_cell 156 = .ok (.goto (-139), 3) := by decide +kernel
theorem dX5_cell_159 : decode cX5_cell 159 = .ok (.lload_n 3, 1) := by decide +kernel
theorem dX5_cell_160 : decode cX5_cell 160 = .ok (.lload 5, 2) := by decide +kernel
theorem dX5_cell_162 : decode cX5_cell 162 = .ok (.lmul, 1) := by decide +kernel
theorem dX5_cell_163 : decode cX5_cell 163 = .ok (.l2d, 1) := by decide +kernel
theorem dX5_cell_164 : decode cX5_cell 164 = .ok (.dstore 13, 2) := by decide +kernel
theorem dX5_cell_166 : decode cX5_cell 166 = .ok (.lload_n 3, 1) := by decide +kernel
theorem dX5_cell_167 : decode cX5_cell 167 = .ok (.lload_n 3, 1) := by decide +kernel
theorem dX5_cell_168 : decode cX5_cell 168 = .ok (.lmul, 1) := by decide +kernel
theorem dX5_cell_169 : decode cX5_cell 169 = .ok (.lload 5, 2) := by decide +kernel
theorem dX5_cell_171 : decode cX5_cell 171 = .ok (.lload 5, 2) := by decide +kernel
theorem dX5_cell_173 : decode cX5_cell 173 = .ok (.lmul, 1) := by decide +kernel
theorem dX5_cell_174 : decode cX5_cell 174 = .ok (.ladd, 1) := by decide +kernel
theorem dX5_cell_175 : decode cX5_cell 175 = .ok (.l2d, 1) := by decide +kernel
theorem dX5_cell_176 : decode cX5_cell 176 = .ok (.dstore 15, 2) := by decide +kernel
theorem dX5_cell_178 : decode cX5_cell 178 = .ok (.ldc2_w 80, 3) := by decide +kernel
theorem dX5_cell_181 : decode cX5_cell 181 = .ok (.lload 11, 2) := by decide +kernel
theorem dX5_cell_183 : decode cX5_cell 183 = .ok (.lmul, 1) := by decide +kernel
theorem dX5_cell_184 : decode cX5_cell 184 = .ok (.lload_n 3, 1) := by decide +kernel
theorem dX5_cell_185 : decode cX5_cell 185 = .ok (.lload 5, 2) := by decide +kernel
theorem dX5_cell_187 : decode cX5_cell 187 = .ok (.lmul, 1) := by decide +kernel
theorem dX5_cell_188 : decode cX5_cell 188 = .ok (.lsub, 1) := by decide +kernel
theorem dX5_cell_189 : decode cX5_cell 189 = .ok (.l2d, 1) := by decide +kernel
theorem dX5_cell_190 : decode cX5_cell 190 = .ok (.dstore 17, 2) := by decide +kernel
theorem dX5_cell_192 : decode cX5_cell 192 = .ok (.ldc2_w 80, 3) := by decide +kernel
theorem dX5_cell_195 : decode cX5_cell 195 = .ok (.lload 7, 2) := by decide +kernel
theorem dX5_cell_197 : decode cX5_cell 197 = .ok (.lmul, 1) := by decide +kernel
theorem dX5_cell_198 : decode cX5_cell 198 = .ok (.lload_n 3, 1) := by decide +kernel
theorem dX5_cell_199 : decode cX5_cell 199 = .ok (.lload_n 3, 1) := by decide +kernel
theorem dX5_cell_200 : decode cX5_cell 200 = .ok (.lmul, 1) := by decide +kernel
theorem dX5_cell_201 : decode cX5_cell 201 = .ok (.lsub, 1) := by decide +kernel
theorem dX5_cell_202 : decode cX5_cell 202 = .ok (.ldc2_w 80, 3) := by decide +kernel
theorem dX5_cell_205 : decode cX5_cell 205 = .ok (.lload 9, 2) := by decide +kernel
theorem dX5_cell_207 : decode cX5_cell 207 = .ok (.lmul, 1) := by decide +kernel
theorem dX5_cell_208 : decode cX5_cell 208 = .ok (.ladd, 1) := by decide +kernel
theorem dX5_cell_209 : decode cX5_cell 209 = .ok (.lload 5, 2) := by decide +kernel
theorem dX5_cell_211 : decode cX5_cell 211 = .ok (.lload 5, 2) := by decide +kernel
theorem dX5_cell_213 : decode cX5_cell 213 = .ok (.lmul, 1) := by decide +kernel
theorem dX5_cell_214 : decode cX5_cell 214 = .ok (.lsub, 1) := by decide +kernel
theorem dX5_cell_215 : decode cX5_cell 215 = .ok (.l2d, 1) := by decide +kernel
theorem dX5_cell_216 : decode cX5_cell 216 = .ok (.dstore 19, 2) := by decide +kernel
theorem dX5_cell_218 : decode cX5_cell 218 = .ok (.ldc2_w 82, 3) := by decide +kernel
theorem dX5_cell_221 : decode cX5_cell 221 = .ok (.dload 13, 2) := by decide +kernel
theorem dX5_cell_223 : decode cX5_cell 223 = .ok (.dmul, 1) := by decide +kernel
theorem dX5_cell_224 : decode cX5_cell 224 = .ok (.ldc2_w 84, 3) := by decide +kernel
theorem dX5_cell_227 : decode cX5_cell 227 = .ok (.dadd, 1) := by decide +kernel
theorem dX5_cell_228 : decode cX5_cell 228 = .ok (.ldc2_w 82, 3) := by decide +kernel
theorem dX5_cell_231 : decode cX5_cell 231 = .ok (.dload 17, 2) := by decide +kernel
theorem dX5_cell_233 : decode cX5_cell 233 = .ok (.dmul, 1) := by decide +kernel
theorem dX5_cell_234 : decode cX5_cell 234 = .ok (.ldc2_w 86, 3) := by decide +kernel
theorem dX5_cell_237 : decode cX5_cell 237 = .ok (.dadd, 1) := by decide +kernel
theorem dX5_cell_238 : decode cX5_cell 238 = .ok (.dmul, 1) := by decide +kernel
theorem dX5_cell_239 : decode cX5_cell 239 = .ok (.dload 15, 2) := by decide +kernel
theorem dX5_cell_241 : decode cX5_cell 241 = .ok (.ldc2_w 84, 3) := by decide +kernel
theorem dX5_cell_244 : decode cX5_cell 244 = .ok (.dadd, 1) := by decide +kernel
theorem dX5_cell_245 : decode cX5_cell 245 = .ok (.dload 19, 2) := by decide +kernel
theorem dX5_cell_247 : decode cX5_cell 247 = .ok (.ldc2_w 86, 3) := by decide +kernel
theorem dX5_cell_250 : decode cX5_cell 250 = .ok (.dadd, 1) := by decide +kernel
theorem dX5_cell_251 : decode cX5_cell 251 = .ok (.dmul, 1) := by decide +kernel
theorem dX5_cell_252 : decode cX5_cell 252 = .ok (.ddiv, 1) := by decide +kernel
theorem dX5_cell_253 : decode cX5_cell 253 = .ok (.dreturn, 1) := by decide +kernel
set_option maxRecDepth 20000 in
theorem ggX5_structure_X5_in : GoodIn wsX5_structure wsX5_in := goodIn_r _ [7] (by decide +kernel) (by decide +kernel)
set_option maxRecDepth 20000 in
theorem gX5_structure_X5_in : GoodIn wsX5_structure (va_wsS RX5 51 yX5_in wsX5_in) := goodIn_app (goodIn_of _ (by decide +kernel)) ggX5_structure_X5_in
set_option maxRecDepth 20000 in
theorem ggX5_structure_X5_scales : GoodIn wsX5_structure wsX5_scales := goodIn_r _ [11, 12, 13, 46, 47, 48, 49, 50, 51, 52, 53, 54, 55, 56, 57, 58, 59, 60] (by decide +kernel) (by decide +kernel)
set_option maxRecDepth 20000 in
theorem gX5_structure_X5_scales : GoodIn wsX5_structure (wsV RX5 88 RX5 yX5_scales wsX5_scales) := goodIn_app (goodIn_of _ (by decide +kernel)) ggX5_structure_X5_scales
set_option maxRecDepth 20000 in
theorem ggX5_structure_X5_makeGrey : GoodIn wsX5_structure wsX5_makeGrey := goodIn_r _ [17, 12, 3, 13, 2, 18, 19, 20, 21, 22, 6, 23, 24, 25, 26, 27, 28, 29, 30, 46, 47, 48, 49, 50, 51, 52, 53, 54, 55, 56, 57, 58, 59, 60] (by decide +kernel) (by decide +kernel)
set_option maxRecDepth 20000 in
theorem gX5_structure_X5_makeGrey : GoodIn wsX5_structure (wsV RX5 91 RX5 yX5_makeGrey wsX5_makeGrey) := goodIn_app (goodIn_of _ (by decide +kernel)) ggX5_structure_X5_makeGrey
set_option maxRecDepth 20000 in
theorem ggX5_structure_X5_halve : GoodIn wsX5_structure wsX5_halve := goodIn_r _ [34, 3, 2, 18, 19, 46, 47, 48, 49, 50, 51, 52, 53, 54, 55, 56, 57, 58, 59, 60] (by decide +kernel) (by decide +kernel)
set_option maxRecDepth 20000 in
theorem gX5_structure_X5_halve : GoodIn wsX5_structure (wsV RX5 94 RX5 yX5_halve wsX5_halve) := goodIn_app (goodIn_of _ (by decide +kernel)) ggX5_structure_X5_halve
set_option maxRecDepth 20000 in
theorem ggX5_structure_X5_cell : GoodIn wsX5_structure wsX5_cell := goodIn_r _ [38, 18, 3, 19, 39, 40, 41, 42, 43, 44, 6, 45, 46, 47, 48, 49, 50, 51, 52, 53, 54, 55, 56, 57, 58, 59, 60] (by decide +kernel) (by decide +kernel)
set_option maxRecDepth 20000 in
theorem gX5_structure_X5_cell : GoodIn wsX5_structure (wsV RX5 97 RX5 yX5_cell wsX5_cell) := goodIn_app (goodIn_of _ (by decide +kernel)) ggX5_structure_X5_cell
theorem dX5_structure_0 : decode cX5_structure 0 = .ok (.aload_n 0, 1) := by decide +kernel
theorem dX5_structure_1 : decode cX5_structure 1 = .ok (.iload_n 1, 1) := by decide +kernel
theorem dX5_structure_2 : decode cX5_structure 2 = .ok (.iconst 0, 1) := by decide +kernel
theorem dX5_structure_3 : decode cX5_structure 3 = .ok (.iconst 4, 1) := by decide +kernel
theorem dX5_structure_4 : decode cX5_structure 4 = .ok (.invokestatic 51, 3) := by decide +kernel
theorem dX5_structure_7 : decode cX5_structure 7 = .ok (.ifCond .ne 7, 3) := by decide +kernel
theorem dX5_structure_10 : decode cX5_structure 10 = .ok (.iconst 1, 1) := by decide +kernel
theorem dX5_structure_11 : decode cX5_structure 11 = .ok (.goto 16, 3) := by decide +kernel
theorem dX5_structure_14 : decode cX5_structure 14 = .ok (.iload_n 1, 1) := by decide +kernel
theorem dX5_structure_15 : decode cX5_structure 15 = .ok (.aload_n 0, 1) := by decide +kernel
theorem dX5_structure_16 : decode cX5_structure 16 = .ok (.invokevirtual 88, 3) := by decide +kernel
theorem dX5_structure_19 : decode cX5_structure 19 = .ok (.if_icmp .lt 7, 3) := by decide +kernel
theorem dX5_structure_22 : decode cX5_structure 22 = .ok (.iconst 2, 1) := by decide +kernel
theorem dX5_structure_23 : decode cX5_structure 23 = .ok (.goto 4, 3) := by decide +kernel
theorem dX5_structure_26 : decode cX5_structure 26 = .ok (.iconst 0, 1) := by decide +kernel
theorem dX5_structure_27 : decode cX5_structure 27 = .ok (.putfield 48, 3) := by decide +kernel
theorem dX5_structure_30 : decode cX5_structure 30 = .ok (.aload_n 0, 1) := by decide +kernel
theorem dX5_structure_31 : decode cX5_structure 31 = .ok (.getfield 48, 3) := by decide +kernel
theorem dX5_structure_34 : decode cX5_structure 34 = .ok (.ifCond .le 5, 3) := by decide +kernel
theorem dX5_structure_37 : decode cX5_structure 37 = .ok (.dconst 0, 1) := by decide +kernel
theorem dX5_structure_38 : decode cX5_structure 38 = .ok (.dreturn, 1) := by decide +kernel
theorem dX5_structure_39 : decode cX5_structure 39 = .ok (.aload_n 0, 1) := by decide +kernel
theorem dX5_structure_40 : decode cX5_structure 40 = .ok (.invokevirtual 91, 3) := by decide +kernel
theorem dX5_structure_43 : decode cX5_structure 43 = .ok (.iconst 0, 1) := by decide +kernel
theorem dX5_structure_44 : decode cX5_structure 44 = .ok (.istore_n 2, 1) := by decide +kernel
theorem dX5_structure_45 : decode cX5_structure 45 = .ok (.iload_n 2, 1) := by decide +kernel
theorem dX5_structure_46 : decode cX5_structure 46 = .ok (.iload_n 1, 1) := by decide +kernel
theorem dX5_structure_47 : decode cX5_structure 47 = .ok (.if_icmp .ge 13, 3) := by decide +kernel
theorem dX5_structure_50 : decode cX5_structure 50 = .ok (.aload_n 0, 1) := by decide +kernel
theorem dX5_structure_51 : decode cX5_structure 51 = .ok (.invokevirtual 94, 3) := by decide +kernel
theorem dX5_structure_54 : decode cX5_structure 54 = .ok (.iinc 2 1, 3) := by decide +kernel
theorem dX5_structure_57 : decode cX5_structure 57 = .ok (.goto (-12), 3) := by decide +kernel
theorem dX5_structure_60 : decode cX5_structure 60 = .ok (.dconst 0, 1) := by decide +kernel
theorem dX5_structure_61 : decode cX5_structure 61 = .ok (.dstore_n 2, 1) := by decide +kernel
theorem dX5_structure_62 : decode cX5_structure 62 = .ok (.iconst 0, 1) := by decide +kernel
theorem dX5_structure_63 : decode cX5_structure 63 = .ok (.istore 4, 2) := by decide +kernel
theorem dX5_structure_65 : decode cX5_structure 65 = .ok (.iconst 0, 1) := by decide +kernel
theorem dX5_structure_66 : decode cX5_structure 66 = .ok (.istore 5, 2) := by decide +kernel
theorem dX5_structure_68 : decode cX5_structure 68 = .ok (.iload 5, 2) := by decide +kernel
theorem dX5_structure_70 : decode cX5_structure 70 = .ok (.iconst 5, 1) := by decide +kernel
theorem dX5_structure_71 : decode cX5_structure 71 = .ok (.iadd, 1) := by decide +kernel
theorem dX5_structure_72 : decode cX5_structure 72 = .ok (.aload_n 0, 1) := by decide +kernel
theorem dX5_structure_73 : decode cX5_structure 73 = .ok (.getfield 73, 3) := by decide +kernel
theorem dX5_structure_76 : decode cX5_structure 76 = .ok (.if_icmp .gt 43, 3) := by decide +kernel
theorem dX5_structure_79 : decode cX5_structure 79 = .ok (.iconst 0, 1) := by decide +kernel
theorem dX5_structure_80 : decode cX5_structure 80 = .ok (.istore 6, 2) := by decide +kernel
theorem dX5_structure_82 : decode cX5_structure 82 = .ok (.iload 6, 2) := by decide +kernel
theorem dX5_structure_84 : decode cX5_structure 84 = .ok (.iconst 5, 1) := by decide +kernel
theorem dX5_structure_85 : decode cX5_structure 85 = .ok (.iadd, 1) := by decide +kernel
theorem dX5_structure_86 : decode cX5_structure 86 = .ok (.aload_n 0, 1) := by decide +kernel
theorem dX5_structure_87 : decode cX5_structure 87 = .ok (.getfield 70, 3) := by decide +kernel
theorem dX5_structure_90 : decode cX5_structure 90 = .ok (.if_icmp .gt 23, 3) := by decide +kernel
theorem dX5_structure_93 : decode cX5_structure 93 = .ok (.dload_n 2, 1) := by decide +kernel
theorem dX5_structure_94 : decode cX5_structure 94 = .ok (.aload_n 0, 1) := by decide +kernel
theorem dX5_structure_95 : decode cX5_structure 95 = .ok (.iload 6, 2) := by decide +kernel
theorem dX5_structure_97 : decode cX5_structure 97 = .ok (.iload 5, 2) := by decide +kernel
theorem dX5_structure_99 : decode cX5_structure 99 = .ok (.invokevirtual 97, 3) := by decide +kernel
theorem dX5_structure_102 : decode cX5_structure 102 = .ok (.dadd, 1) := by decide +kernel
theorem dX5_structure_103 : decode cX5_structure 103 = .ok (.dstore_n 2, 1) := by decide +kernel
theorem dX5_structure_104 : decode cX5_structure 104 = .ok (.iinc 4 1, 3) := by decide +kernel
theorem dX5_structure_107 : decode cX5_structure 107 = .ok (.iinc 6 1, 3) := by decide +kernel
theorem dX5_structure_110 : decode cX5_structure 110 = .ok (.goto (-28), 3) := by decide +kernel
theorem dX5_structure_113 : decode cX5_structure 113 = .ok (.iinc 5 1, 3) := by decide +kernel
theorem dX5_structure_116 : decode cX5_structure 116 = .ok (.goto (-48), 3) := by decide +kernel
theorem dX5_structure_119 : decode cX5_structure 119 = .ok (.dload_n 2, 1) := by decide +kernel
theorem dX5_structure_120 : decode cX5_structure 120 = .ok (.iload 4, 2) := by decide +kernel
theorem dX5_structure_122 : decode cX5_structure 122 = .ok (.i2d, 1) := by decide +kernel
theorem dX5_structure_123 : decode cX5_structure 123 = .ok (.ddiv, 1) := by decide +kernel
theorem dX5_structure_124 : decode cX5_structure 124 = .ok (.dreturn, 1) := by decide +kernel
set_option maxRecDepth 20000 in
theorem ggX5_map_X5_in : GoodIn wsX5_map wsX5_in := goodIn_r _ [7] (by decide +kernel) (by decide +kernel)
set_option maxRecDepth 20000 in
theorem gX5_map_X5_in : GoodIn wsX5_map (va_wsS RX5 51 yX5_in wsX5_in) := goodIn_app (goodIn_of _ (by decide +kernel)) ggX5_map_X5_in
set_option maxRecDepth 20000 in
theorem ggX5_map_X5_makeGrey : GoodIn wsX5_map wsX5_makeGrey := goodIn_r _ [11, 1, 12, 2, 13, 14, 15, 16, 17, 18, 6, 19, 20, 21, 22, 23, 24, 25, 26, 38, 39, 40, 41, 42, 43, 44, 45, 46, 47, 48, 49, 50, 51, 52] (by decide +kernel) (by decide +kernel)
set_option maxRecDepth 20000 in
theorem gX5_map_X5_makeGrey : GoodIn wsX5_map (wsV RX5 91 RX5 yX5_makeGrey wsX5_makeGrey) := goodIn_app (goodIn_of _ (by decide +kernel)) ggX5_map_X5_makeGrey
set_option maxRecDepth 20000 in
theorem ggX5_map_X5_cell : GoodIn wsX5_map wsX5_cell := goodIn_r _ [30, 14, 12, 15, 31, 32, 33, 34, 35, 36, 6, 37, 38, 39, 40, 41, 42, 43, 44, 45, 46, 47, 48, 49, 50, 51, 52] (by decide +kernel) (by decide +kernel)
set_option maxRecDepth 20000 in
theorem gX5_map_X5_cell : GoodIn wsX5_map (wsV RX5 97 RX5 yX5_cell wsX5_cell) := goodIn_app (goodIn_of _ (by decide +kernel)) ggX5_map_X5_cell
theorem dX5_map_0 : decode cX5_map 0 = .ok (.aload_n 0, 1) := by decide +kernel
theorem dX5_map_1 : decode cX5_map 1 = .ok (.iload_n 1, 1) := by decide +kernel
theorem dX5_map_2 : decode cX5_map 2 = .ok (.iconst 2, 1) := by decide +kernel
theorem dX5_map_3 : decode cX5_map 3 = .ok (.aload_n 0, 1) := by decide +kernel
theorem dX5_map_4 : decode cX5_map 4 = .ok (.getfield 38, 3) := by decide +kernel
theorem dX5_map_7 : decode cX5_map 7 = .ok (.iconst 3, 1) := by decide +kernel
theorem dX5_map_8 : decode cX5_map 8 = .ok (.isub, 1) := by decide +kernel
theorem dX5_map_9 : decode cX5_map 9 = .ok (.invokestatic 51, 3) := by decide +kernel
theorem dX5_map_12 : decode cX5_map 12 = .ok (.ifCond .eq 21, 3) := by decide +kernel
theorem dX5_map_15 : decode cX5_map 15 = .ok (.iload_n 2, 1) := by decide +kernel
theorem dX5_map_16 : decode cX5_map 16 = .ok (.iconst 2, 1) := by decide +kernel
theorem dX5_map_17 : decode cX5_map 17 = .ok (.aload_n 0, 1) := by decide +kernel
theorem dX5_map_18 : decode cX5_map 18 = .ok (.getfield 42, 3) := by decide +kernel
theorem dX5_map_21 : decode cX5_map 21 = .ok (.iconst 3, 1) := by decide +kernel
theorem dX5_map_22 : decode cX5_map 22 = .ok (.isub, 1) := by decide +kernel
theorem dX5_map_23 : decode cX5_map 23 = .ok (.invokestatic 51, 3) := by decide +kernel
theorem dX5_map_26 : decode cX5_map 26 = .ok (.ifCond .eq 7, 3) := by decide +kernel
theorem dX5_map_29 : decode cX5_map 29 = .ok (.iconst 0, 1) := by decide +kernel
theorem dX5_map_30 : decode cX5_map 30 = .ok (.goto 4, 3) := by decide +kernel
theorem dX5_map_33 : decode cX5_map 33 = .ok (.iconst 1, 1) := by decide +kernel
theorem dX5_map_34 : decode cX5_map 34 = .ok (.putfield 48, 3) := by decide +kernel
theorem dX5_map_37 : decode cX5_map 37 = .ok (.aload_n 0, 1) := by decide +kernel
theorem dX5_map_38 : decode cX5_map 38 = .ok (.getfield 48, 3) := by decide +kernel
theorem dX5_map_41 : decode cX5_map 41 = .ok (.ifCond .le 5, 3) := by decide +kernel
theorem dX5_map_44 : decode cX5_map 44 = .ok (.dconst 0, 1) := by decide +kernel
theorem dX5_map_45 : decode cX5_map 45 = .ok (.dreturn, 1) := by decide +kernel
theorem dX5_map_46 : decode cX5_map 46 = .ok (.aload_n 0, 1) := by decide +kernel
theorem dX5_map_47 : decode cX5_map 47 = .ok (.invokevirtual 91, 3) := by decide +kernel
theorem dX5_map_50 : decode cX5_map 50 = .ok (.aload_n 0, 1) := by decide +kernel
theorem dX5_map_51 : decode cX5_map 51 = .ok (.iload_n 1, 1) := by decide +kernel
theorem dX5_map_52 : decode cX5_map 52 = .ok (.iconst 2, 1) := by decide +kernel
theorem dX5_map_53 : decode cX5_map 53 = .ok (.isub, 1) := by decide +kernel
theorem dX5_map_54 : decode cX5_map 54 = .ok (.iload_n 2, 1) := by decide +kernel
theorem dX5_map_55 : decode cX5_map 55 = .ok (.iconst 2, 1) := by decide +kernel
theorem dX5_map_56 : decode cX5_map 56 = .ok (.isub, 1) := by decide +kernel
theorem dX5_map_57 : decode cX5_map 57 = .ok (.invokevirtual 97, 3) := by decide +kernel
theorem dX5_map_60 : decode cX5_map 60 = .ok (.dreturn, 1) := by decide +kernel
set_option maxRecDepth 20000 in
theorem ggX5_blocks_X5_in : GoodIn wsX5_blocks wsX5_in := goodIn_r _ [8] (by decide +kernel) (by decide +kernel)
set_option maxRecDepth 20000 in
theorem gX5_blocks_X5_in : GoodIn wsX5_blocks (va_wsS RX5 51 yX5_in wsX5_in) := goodIn_app (goodIn_of _ (by decide +kernel)) ggX5_blocks_X5_in
set_option maxRecDepth 20000 in
theorem ggX5_blocks_X5_makeGrey : GoodIn wsX5_blocks wsX5_makeGrey := goodIn_r _ [12, 3, 13, 2, 14, 15, 4, 16, 17, 18, 7, 19, 20, 21, 22, 23, 24, 25, 26, 27, 28, 29, 30, 31, 32, 33, 34, 35, 36, 37, 38, 39, 40, 41] (by decide +kernel) (by decide +kernel)
set_option maxRecDepth 20000 in
theorem gX5_blocks_X5_makeGrey : GoodIn wsX5_blocks (wsV RX5 91 RX5 yX5_makeGrey wsX5_makeGrey) := goodIn_app (goodIn_of _ (by decide +kernel)) ggX5_blocks_X5_makeGrey
theorem dX5_blocks_0 : decode cX5_blocks 0 = .ok (.aload_n 0, 1) := by decide +kernel
theorem dX5_blocks_1 : decode cX5_blocks 1 = .ok (.iload_n 1, 1) := by decide +kernel
theorem dX5_blocks_2 : decode cX5_blocks 2 = .ok (.iconst 2, 1) := by decide +kernel
theorem dX5_blocks_3 : decode cX5_blocks 3 = .ok (.bipush 24, 2) := by decide +kernel
theorem dX5_blocks_5 : decode cX5_blocks 5 = .ok (.invokestatic 51, 3) := by decide +kernel
theorem dX5_blocks_8 : decode cX5_blocks 8 = .ok (.ifCond .eq 7, 3) := by decide +kernel
theorem dX5_blocks_11 : decode cX5_blocks 11 = .ok (.iconst 0, 1) := by decide +kernel
theorem dX5_blocks_12 : decode cX5_blocks 12 = .ok (.goto 4, 3) := by decide +kernel
theorem dX5_blocks_15 : decode cX5_blocks 15 = .ok (.iconst 1, 1) := by decide +kernel
theorem dX5_blocks_16 : decode cX5_blocks 16 = .ok (.putfield 48, 3) := by decide +kernel
theorem dX5_blocks_19 : decode cX5_blocks 19 = .ok (.aload_n 0, 1) := by decide +kernel
theorem dX5_blocks_20 : decode cX5_blocks 20 = .ok (.getfield 48, 3) := by decide +kernel
theorem dX5_blocks_23 : decode cX5_blocks 23 = .ok (.ifCond .le 5, 3) := by decide +kernel
theorem dX5_blocks_26 : decode cX5_blocks 26 = .ok (.dconst 0, 1) := by decide +kernel
theorem dX5_blocks_27 : decode cX5_blocks 27 = .ok (.dreturn, 1) := by decide +kernel
theorem dX5_blocks_28 : decode cX5_blocks 28 = .ok (.aload_n 0, 1) := by decide +kernel
theorem dX5_blocks_29 : decode cX5_blocks 29 = .ok (.invokevirtual 91, 3) := by decide +kernel
theorem dX5_blocks_32 : decode cX5_blocks 32 = .ok (.lconst 0, 1) := by decide +kernel
theorem dX5_blocks_33 : decode cX5_blocks 33 = .ok (.lstore_n 2, 1) := by decide +kernel
theorem dX5_blocks_34 : decode cX5_blocks 34 = .ok (.lconst 0, 1) := by decide +kernel
theorem dX5_blocks_35 : decode cX5_blocks 35 = .ok (.lstore 4, 2) := by decide +kernel
theorem dX5_blocks_37 : decode cX5_blocks 37 = .ok (.iconst 0, 1) := by decide +kernel
theorem dX5_blocks_38 : decode cX5_blocks 38 = .ok (.istore 6, 2) := by decide +kernel
theorem dX5_blocks_40 : decode cX5_blocks 40 = .ok (.iconst 0, 1) := by decide +kernel
theorem dX5_blocks_41 : decode cX5_blocks 41 = .ok (.istore 7, 2) := by decide +kernel
theorem dX5_blocks_43 : decode cX5_blocks 43 = .ok (.iconst 0, 1) := by decide +kernel
theorem dX5_blocks_44 : decode cX5_blocks 44 = .ok (.istore 8, 2) := by decide +kernel
theorem dX5_blocks_46 : decode cX5_blocks 46 = .ok (.iload 8, 2) := by decide +kernel
theorem dX5_blocks_48 : decode cX5_blocks 48 = .ok (.aload_n 0, 1) := by decide +kernel
theorem dX5_blocks_49 : decode cX5_blocks 49 = .ok (.getfield 42, 3) := by decide +kernel
theorem dX5_blocks_52 : decode cX5_blocks 52 = .ok (.if_icmp .ge 153, 3) := by decide +kernel
theorem dX5_blocks_55 : decode cX5_blocks 55 = .ok (.iconst 1, 1) := by decide +kernel
theorem dX5_blocks_56 : decode cX5_blocks 56 = .ok (.istore 9, 2) := by decide +kernel
theorem dX5_blocks_58 : decode cX5_blocks 58 = .ok (.iload 9, 2) := by decide +kernel
theorem dX5_blocks_60 : decode cX5_blocks 60 = .ok (.aload_n 0, 1) := by decide +kernel
theorem dX5_blocks_61 : decode cX5_blocks 61 = .ok (.getfield 38, 3) := by decide +kernel
theorem dX5_blocks_64 : decode cX5_blocks 64 = .ok (.if_icmp .ge 135, 3) := by decide +kernel
theorem dX5_blocks_67 : decode cX5_blocks 67 = .ok (.aload_n 0, 1) := by decide +kernel
theorem dX5_blocks_68 : decode cX5_blocks 68 = .ok (.getfield 19, 3) := by decide +kernel
theorem dX5_blocks_71 : decode cX5_blocks 71 = .ok (.aload_n 0, 1) := by decide +kernel
theorem dX5_blocks_72 : decode cX5_blocks 72 = .ok (.getfield 38, 3) := by decide +kernel
theorem dX5_blocks_75 : decode cX5_blocks 75 = .ok (.iload 8, 2) := by decide +kernel
theorem dX5_blocks_77 : decode cX5_blocks 77 = .ok (.imul, 1) := by decide +kernel
theorem dX5_blocks_78 : decode cX5_blocks 78 = .ok (.iload 9, 2) := by decide +kernel
theorem dX5_blocks_80 : decode cX5_blocks 80 = .ok (.iadd, 1) := by decide +kernel
theorem dX5_blocks_81 : decode cX5_blocks 81 = .ok (.iaload, 1) := by decide +kernel
theorem dX5_blocks_82 : decode cX5_blocks 82 = .ok (.aload_n 0, 1) := by decide +kernel
theorem dX5_blocks_83 : decode cX5_blocks 83 = .ok (.getfield 19, 3) := by decide +kernel
theorem dX5_blocks_86 : decode cX5_blocks 86 = .ok (.aload_n 0, 1) := by decide +kernel
theorem dX5_blocks_87 : decode cX5_blocks 87 = .ok (.getfield 38, 3) := by decide +kernel
theorem dX5_blocks_90 : decode cX5_blocks 90 = .ok (.iload 8, 2) := by decide +kernel
theorem dX5_blocks_92 : decode cX5_blocks 92 = .ok (.imul, 1) := by decide +kernel
theorem dX5_blocks_93 : decode cX5_blocks 93 = .ok (.iload 9, 2) := by decide +kernel
theorem dX5_blocks_95 : decode cX5_blocks 95 = .ok (.iadd, 1) := by decide +kernel
theorem dX5_blocks_96 : decode cX5_blocks 96 = .ok (.iconst 1, 1) := by decide +kernel
theorem dX5_blocks_97 : decode cX5_blocks 97 = .ok (.isub, 1) := by decide +kernel
theorem dX5_blocks_98 : decode cX5_blocks 98 = .ok (.iaload, 1) := by decide +kernel
theorem dX5_blocks_99 : decode cX5_blocks 99 = .ok (.isub, 1) := by decide +kernel
theorem dX5_blocks_100 : decode cX5_blocks 100 = .ok (.istore 10, 2) := by decide +kernel
theorem dX5_blocks_102 : decode cX5_blocks 102 = .ok (.iload 10, 2) := by decide +kernel
theorem dX5_blocks_104 : decode cX5_blocks 104 = .ok (.ifCond .ge 9, 3) := by decide +kernel
theorem dX5_blocks_107 : decode cX5_blocks 107 = .ok (.iload 10, 2) := by decide +kernel
theorem dX5_blocks_109 : decode cX5_blocks 109 = .ok (.ineg, 1) := by decide +kernel
theorem dX5_blocks_110 : decode cX5_blocks 110 = .ok (.goto 5, 3) := by decide +kernel
theorem dX5_blocks_113 : decode cX5_blocks 113 = .ok (.iload 10, 2) := by decide +kernel
theorem dX5_blocks_115 : decode cX5_blocks 115 = .ok (.istore 10, 2) := by decide +kernel
theorem dX5_blocks_117 : decode cX5_blocks 117 = .ok (.iload 9, 2) := by decide +kernel
theorem dX5_blocks_119 : decode cX5_blocks 119 = .ok (.iload_n 1, 1) := by decide +kernel
theorem dX5_blocks_120 : decode cX5_blocks 120 = .ok (.irem, 1) := by decide +kernel
theorem dX5_blocks_121 : decode cX5_blocks 121 = .ok (.ifCond .ne 7, 3) := by decide +kernel
theorem dX5_blocks_124 : decode cX5_blocks 124 = .ok (.iconst 1, 1) := by decide +kernel
theorem dX5_blocks_125 : decode cX5_blocks 125 = .ok (.goto 4, 3) := by decide +kernel
theorem dX5_blocks_128 : decode cX5_blocks 128 = .ok (.iconst 0, 1) := by decide +kernel
theorem dX5_blocks_129 : decode cX5_blocks 129 = .ok (.istore 11, 2) := by decide +kernel
theorem dX5_blocks_131 : decode cX5_blocks 131 = .ok (.lload_n 2, 1) := by decide +kernel
theorem dX5_blocks_132 : decode cX5_blocks 132 = .ok (.iload 11, 2) := by decide +kernel
theorem dX5_blocks_134 : decode cX5_blocks 134 = .ok (.ifCond .eq 9, 3) := by decide +kernel
theorem dX5_blocks_137 : decode cX5_blocks 137 = .ok (.iload 10, 2) := by decide +kernel
theorem dX5_blocks_139 : decode cX5_blocks 139 = .ok (.i2l, 1) := by decide +kernel
theorem dX5_blocks_140 : decode cX5_blocks 140 = .ok (.goto 4, 3) := by decide +kernel
theorem dX5_blocks_143 : decode cX5_blocks 143 = .ok (.lconst 0, 1) := by decide +kernel
theorem dX5_blocks_144 : decode cX5_blocks 144 = .ok (.ladd, 1) := by decide +kernel
theorem dX5_blocks_145 : decode cX5_blocks 145 = .ok (.lstore_n 2, 1) := by decide +kernel
theorem dX5_blocks_146 : decode cX5_blocks 146 = .ok (.lload 4, 2) := by decide +kernel
theorem dX5_blocks_148 : decode cX5_blocks 148 = .ok (.iload 11, 2) := by decide +kernel
theorem dX5_blocks_150 : decode cX5_blocks 150 = .ok (.ifCond .eq 7, 3) := by decide +kernel
theorem dX5_blocks_153 : decode cX5_blocks 153 = .ok (.lconst 0, 1) := by decide +kernel
theorem dX5_blocks_154 : decode cX5_blocks 154 = .ok (.goto 6, 3) := by decide +kernel
theorem dX5_blocks_157 : decode cX5_blocks 157 = .ok (.iload 10, 2) := by decide +kernel
theorem dX5_blocks_159 : decode cX5_blocks 159 = .ok (.i2l, 1) := by decide +kernel
theorem dX5_blocks_160 : decode cX5_blocks 160 = .ok (.ladd, 1) := by decide +kernel
theorem dX5_blocks_161 : decode cX5_blocks 161 = .ok (.lstore 4, 2) := by decide +kernel
theorem dX5_blocks_163 : decode cX5_blocks 163 = .ok (.iload 6, 2) := by decide +kernel
theorem dX5_blocks_165 : decode cX5_blocks 165 = .ok (.iload 11, 2) := by decide +kernel
theorem dX5_blocks_167 : decode cX5_blocks 167 = .ok (.ifCond .eq 7, 3) := by decide +kernel
theorem dX5_blocks_170 : decode cX5_blocks 170 = .ok (.iconst 1, 1) := by decide +kernel
theorem dX5_blocks_171 : decode cX5_blocks 171 = .ok (.goto 4, 3) := by decide +kernel
theorem dX5_blocks_174 : decode cX5_blocks 174 = .ok (.iconst 0, 1) := by decide +kernel
theorem dX5_blocks_175 : decode cX5_blocks 175 = .ok (.iadd, 1) := by decide +kernel
theorem dX5_blocks_176 : decode cX5_blocks 176 = .ok (.istore 6, 2) := by decide +kernel
theorem dX5_blocks_178 : decode cX5_blocks 178 = .ok (.iload 7, 2) := by decide +kernel
theorem dX5_blocks_180 : decode cX5_blocks 180 = .ok (.iload 11, 2) := by decide +kernel
theorem dX5_blocks_182 : decode cX5_blocks 182 = .ok (.ifCond .eq 7, 3) := by decide +kernel
theorem dX5_blocks_185 : decode cX5_blocks 185 = .ok (.iconst 0, 1) := by decide +kernel
theorem dX5_blocks_186 : decode cX5_blocks 186 = .ok (.goto 4, 3) := by decide +kernel
theorem dX5_blocks_189 : decode cX5_blocks 189 = .ok (.iconst 1, 1) := by decide +kernel
theorem dX5_blocks_190 : decode cX5_blocks 190 = .ok (.iadd, 1) := by decide +kernel
theorem dX5_blocks_191 : decode cX5_blocks 191 = .ok (.istore 7, 2) := by decide +kernel
theorem dX5_blocks_193 : decode cX5_blocks 193 = .ok (.iinc 9 1, 3) := by decide +kernel
theorem dX5_blocks_196 : decode cX5_blocks 196 = .ok (.goto (-138), 3) := by decide +kernel
theorem dX5_blocks_199 : decode cX5_blocks 199 = .ok (.iinc 8 1, 3) := by decide +kernel
theorem dX5_blocks_202 : decode cX5_blocks 202 = .ok (.goto (-156), 3) := by decide +kernel
theorem dX5_blocks_205 : decode cX5_blocks 205 = .ok (.iload 6, 2) := by decide +kernel
theorem dX5_blocks_207 : decode cX5_blocks 207 = .ok (.ifCond .eq 8, 3) := by decide +kernel
theorem dX5_blocks_210 : decode cX5_blocks 210 = .ok (.iload 7, 2) := by decide +kernel
theorem dX5_blocks_212 : decode cX5_blocks 212 = .ok (.ifCond .ne 7, 3) := by decide +kernel
theorem dX5_blocks_215 : decode cX5_blocks 215 = .ok (.dconst 0, 1) := by decide +kernel
theorem dX5_blocks_216 : decode cX5_blocks 216 = .ok (.goto 17, 3) := by decide +kernel
theorem dX5_blocks_219 : decode cX5_blocks 219 = .ok (.lload_n 2, 1) := by decide +kernel
theorem dX5_blocks_220 : decode cX5_blocks 220 = .ok (.l2d, 1) := by decide +kernel
theorem dX5_blocks_221 : decode cX5_blocks 221 = .ok (.iload 6, 2) := by decide +kernel
theorem dX5_blocks_223 : decode cX5_blocks 223 = .ok (.i2d, 1) := by decide +kernel
theorem dX5_blocks_224 : decode cX5_blocks 224 = .ok (.ddiv, 1) := by decide +kernel
theorem dX5_blocks_225 : decode cX5_blocks 225 = .ok (.lload 4, 2) := by decide +kernel
theorem dX5_blocks_227 : decode cX5_blocks 227 = .ok (.l2d, 1) := by decide +kernel
theorem dX5_blocks_228 : decode cX5_blocks 228 = .ok (.iload 7, 2) := by decide +kernel
theorem dX5_blocks_230 : decode cX5_blocks 230 = .ok (.i2d, 1) := by decide +kernel
theorem dX5_blocks_231 : decode cX5_blocks 231 = .ok (.ddiv, 1) := by decide +kernel
theorem dX5_blocks_232 : decode cX5_blocks 232 = .ok (.dsub, 1) := by decide +kernel
theorem dX5_blocks_233 : decode cX5_blocks 233 = .ok (.dreturn, 1) := by decide +kernel
set_option maxRecDepth 20000 in
theorem ggX5_bands_X5_makeGrey : GoodIn wsX5_bands wsX5_makeGrey := goodIn_r _ [10, 3, 11, 2, 12, 4, 5, 13, 14, 15, 9, 16, 17, 18, 19, 20, 21, 22, 23, 24, 25, 26, 27, 28, 29, 30, 31, 32, 33, 34, 35, 36, 37, 38] (by decide +kernel) (by decide +kernel)
set_option maxRecDepth 20000 in
theorem gX5_bands_X5_makeGrey : GoodIn wsX5_bands (wsV RX5 91 RX5 yX5_makeGrey wsX5_makeGrey) := goodIn_app (goodIn_of _ (by decide +kernel)) ggX5_bands_X5_makeGrey
theorem dX5_bands_0 : decode cX5_bands 0 = .ok (.aload_n 0, 1) := by decide +kernel
theorem dX5_bands_1 : decode cX5_bands 1 = .ok (.iconst 0, 1) := by decide +kernel
theorem dX5_bands_2 : decode cX5_bands 2 = .ok (.putfield 48, 3) := by decide +kernel
theorem dX5_bands_5 : decode cX5_bands 5 = .ok (.aload_n 0, 1) := by decide +kernel
theorem dX5_bands_6 : decode cX5_bands 6 = .ok (.invokevirtual 91, 3) := by decide +kernel
theorem dX5_bands_9 : decode cX5_bands 9 = .ok (.iconst 0, 1) := by decide +kernel
theorem dX5_bands_10 : decode cX5_bands 10 = .ok (.istore_n 1, 1) := by decide +kernel
