theorem dX3_likenessAt_136 : decode cX3_likenessAt 136 = .ok (.lload 5, 2) := by decide +kernel
theorem dX3_likenessAt_138 : decode cX3_likenessAt 138 = .ok (.iload 21, 2) := by decide +kernel
theorem dX3_likenessAt_140 : decode cX3_likenessAt 140 = .ok (.i2l, 1) := by decide +kernel
theorem dX3_likenessAt_141 : decode cX3_likenessAt 141 = .ok (.ladd, 1) := by decide +kernel
theorem dX3_likenessAt_142 : decode cX3_likenessAt 142 = .ok (.lstore 5, 2) := by decide +kernel
theorem dX3_likenessAt_144 : decode cX3_likenessAt 144 = .ok (.lload 7, 2) := by decide +kernel
theorem dX3_likenessAt_146 : decode cX3_likenessAt 146 = .ok (.iload 20, 2) := by decide +kernel
theorem dX3_likenessAt_148 : decode cX3_likenessAt 148 = .ok (.iload 18, 2) := by decide +kernel
theorem dX3_likenessAt_150 : decode cX3_likenessAt 150 = .ok (.imul, 1) := by decide +kernel
theorem dX3_likenessAt_151 : decode cX3_likenessAt 151 = .ok (.i2l, 1) := by decide +kernel
theorem dX3_likenessAt_152 : decode cX3_likenessAt 152 = .ok (.ladd, 1) := by decide +kernel
theorem dX3_likenessAt_153 : decode cX3_likenessAt 153 = .ok (.lstore 7, 2) := by decide +kernel
theorem dX3_likenessAt_155 : decode cX3_likenessAt 155 = .ok (.lload 9, 2) := by decide +kernel
theorem dX3_likenessAt_157 : decode cX3_likenessAt 157 = .ok (.iload 21, 2) := by decide +kernel
theorem dX3_likenessAt_159 : decode cX3_likenessAt 159 = .ok (.iload 19, 2) := by decide +kernel
theorem dX3_likenessAt_161 : decode cX3_likenessAt 161 = .ok (.imul, 1) := by decide +kernel
theorem dX3_likenessAt_162 : decode cX3_likenessAt 162 = .ok (.i2l, 1) := by decide +kernel
theorem dX3_likenessAt_163 : decode cX3_likenessAt 163 = .ok (.ladd, 1) := by decide +kernel
theorem dX3_likenessAt_164 : decode cX3_likenessAt 164 = .ok (.lstore 9, 2) := by decide +kernel
theorem dX3_likenessAt_166 : decode cX3_likenessAt 166 = .ok (.lload 11, 2) := by decide +kernel
theorem dX3_likenessAt_168 : decode cX3_likenessAt 168 = .ok (.iload 20, 2) := by decide +kernel
theorem dX3_likenessAt_170 : decode cX3_likenessAt 170 = .ok (.iload 19, 2) := by decide +kernel
theorem dX3_likenessAt_172 : decode cX3_likenessAt 172 = .ok (.imul, 1) := by decide +kernel
theorem dX3_likenessAt_173 : decode cX3_likenessAt 173 = .ok (.i2l, 1) := by decide +kernel
theorem dX3_likenessAt_174 : decode cX3_likenessAt 174 = .ok (.ladd, 1) := by decide +kernel
theorem dX3_likenessAt_175 : decode cX3_likenessAt 175 = .ok (.lstore 11, 2) := by decide +kernel
theorem dX3_likenessAt_177 : decode cX3_likenessAt 177 = .ok (.iinc 15 1, 3) := by decide +kernel
theorem dX3_likenessAt_180 : decode cX3_likenessAt 180 = .ok (.goto (-138), 3) := by decide +kernel
theorem dX3_likenessAt_183 : decode cX3_likenessAt 183 = .ok (.iinc 13 1, 3) := by decide +kernel
theorem dX3_likenessAt_186 : decode cX3_likenessAt 186 = .ok (.goto (-169), 3) := by decide +kernel
theorem dX3_likenessAt_189 : decode cX3_likenessAt 189 = .ok (.lload_n 3, 1) := by decide +kernel
theorem dX3_likenessAt_190 : decode cX3_likenessAt 190 = .ok (.lload 5, 2) := by decide +kernel
theorem dX3_likenessAt_192 : decode cX3_likenessAt 192 = .ok (.lmul, 1) := by decide +kernel
theorem dX3_likenessAt_193 : decode cX3_likenessAt 193 = .ok (.l2d, 1) := by decide +kernel
theorem dX3_likenessAt_194 : decode cX3_likenessAt 194 = .ok (.dstore 13, 2) := by decide +kernel
theorem dX3_likenessAt_196 : decode cX3_likenessAt 196 = .ok (.lload_n 3, 1) := by decide +kernel
theorem dX3_likenessAt_197 : decode cX3_likenessAt 197 = .ok (.lload_n 3, 1) := by decide +kernel
theorem dX3_likenessAt_198 : decode cX3_likenessAt 198 = .ok (.lmul, 1) := by decide +kernel
theorem dX3_likenessAt_199 : decode cX3_likenessAt 199 = .ok (.lload 5, 2) := by decide +kernel
theorem dX3_likenessAt_201 : decode cX3_likenessAt 201 = .ok (.lload 5, 2) := by decide +kernel
theorem dX3_likenessAt_203 : decode cX3_likenessAt 203 = .ok (.lmul, 1) := by decide +kernel
theorem dX3_likenessAt_204 : decode cX3_likenessAt 204 = .ok (.ladd, 1) := by decide +kernel
theorem dX3_likenessAt_205 : decode cX3_likenessAt 205 = .ok (.l2d, 1) := by decide +kernel
theorem dX3_likenessAt_206 : decode cX3_likenessAt 206 = .ok (.dstore 15, 2) := by decide +kernel
theorem dX3_likenessAt_208 : decode cX3_likenessAt 208 = .ok (.ldc2_w 48, 3) := by decide +kernel
theorem dX3_likenessAt_211 : decode cX3_likenessAt 211 = .ok (.lload 11, 2) := by decide +kernel
theorem dX3_likenessAt_213 : decode cX3_likenessAt 213 = .ok (.lmul, 1) := by decide +kernel
theorem dX3_likenessAt_214 : decode cX3_likenessAt 214 = .ok (.lload_n 3, 1) := by decide +kernel
theorem dX3_likenessAt_215 : decode cX3_likenessAt 215 = .ok (.lload 5, 2) := by decide +kernel
theorem dX3_likenessAt_217 : decode cX3_likenessAt 217 = .ok (.lmul, 1) := by decide +kernel
theorem dX3_likenessAt_218 : decode cX3_likenessAt 218 = .ok (.lsub, 1) := by decide +kernel
theorem dX3_likenessAt_219 : decode cX3_likenessAt 219 = .ok (.l2d, 1) := by decide +kernel
theorem dX3_likenessAt_220 : decode cX3_likenessAt 220 = .ok (.dstore 17, 2) := by decide +kernel
theorem dX3_likenessAt_222 : decode cX3_likenessAt 222 = .ok (.ldc2_w 48, 3) := by decide +kernel
theorem dX3_likenessAt_225 : decode cX3_likenessAt 225 = .ok (.lload 7, 2) := by decide +kernel
theorem dX3_likenessAt_227 : decode cX3_likenessAt 227 = .ok (.lmul, 1) := by decide +kernel
theorem dX3_likenessAt_228 : decode cX3_likenessAt 228 = .ok (.lload_n 3, 1) := by decide +kernel
theorem dX3_likenessAt_229 : decode cX3_likenessAt 229 = .ok (.lload_n 3, 1) := by decide +kernel
theorem dX3_likenessAt_230 : decode cX3_likenessAt 230 = .ok (.lmul, 1) := by decide +kernel
theorem dX3_likenessAt_231 : decode cX3_likenessAt 231 = .ok (.lsub, 1) := by decide +kernel
theorem dX3_likenessAt_232 : decode cX3_likenessAt 232 = .ok (.ldc2_w 48, 3) := by decide +kernel
theorem dX3_likenessAt_235 : decode cX3_likenessAt 235 = .ok (.lload 9, 2) := by decide +kernel
theorem dX3_likenessAt_237 : decode cX3_likenessAt 237 = .ok (.lmul, 1) := by decide +kernel
theorem dX3_likenessAt_238 : decode cX3_likenessAt 238 = .ok (.ladd, 1) := by decide +kernel
theorem dX3_likenessAt_239 : decode cX3_likenessAt 239 = .ok (.lload 5, 2) := by decide +kernel
theorem dX3_likenessAt_241 : decode cX3_likenessAt 241 = .ok (.lload 5, 2) := by decide +kernel
theorem dX3_likenessAt_243 : decode cX3_likenessAt 243 = .ok (.lmul, 1) := by decide +kernel
theorem dX3_likenessAt_244 : decode cX3_likenessAt 244 = .ok (.lsub, 1) := by decide +kernel
theorem dX3_likenessAt_245 : decode cX3_likenessAt 245 = .ok (.l2d, 1) := by decide +kernel
theorem dX3_likenessAt_246 : decode cX3_likenessAt 246 = .ok (.dstore 19, 2) := by decide +kernel
theorem dX3_likenessAt_248 : decode cX3_likenessAt 248 = .ok (.dload 13, 2) := by decide +kernel
theorem dX3_likenessAt_250 : decode cX3_likenessAt 250 = .ok (.dload 15, 2) := by decide +kernel
theorem dX3_likenessAt_252 : decode cX3_likenessAt 252 = .ok (.dload 17, 2) := by decide +kernel
theorem dX3_likenessAt_254 : decode cX3_likenessAt 254 = .ok (.dload 19, 2) := by decide +kernel
theorem dX3_likenessAt_256 : decode cX3_likenessAt 256 = .ok (.invokestatic 50, 3) := by decide +kernel
theorem dX3_likenessAt_259 : decode cX3_likenessAt 259 = .ok (.dreturn, 1) := by decide +kernel
theorem dX3_ratio_0 : decode cX3_ratio 0 = .ok (.ldc2_w 54, 3) := by decide +kernel
theorem dX3_ratio_3 : decode cX3_ratio 3 = .ok (.dstore 8, 2) := by decide +kernel
theorem dX3_ratio_5 : decode cX3_ratio 5 = .ok (.ldc2_w 56, 3) := by decide +kernel
theorem dX3_ratio_8 : decode cX3_ratio 8 = .ok (.dstore 10, 2) := by decide +kernel
theorem dX3_ratio_10 : decode cX3_ratio 10 = .ok (.ldc2_w 58, 3) := by decide +kernel
theorem dX3_ratio_13 : decode cX3_ratio 13 = .ok (.dload_n 0, 1) := by decide +kernel
theorem dX3_ratio_14 : decode cX3_ratio 14 = .ok (.dmul, 1) := by decide +kernel
theorem dX3_ratio_15 : decode cX3_ratio 15 = .ok (.dload 8, 2) := by decide +kernel
theorem dX3_ratio_17 : decode cX3_ratio 17 = .ok (.dadd, 1) := by decide +kernel
theorem dX3_ratio_18 : decode cX3_ratio 18 = .ok (.ldc2_w 58, 3) := by decide +kernel
theorem dX3_ratio_21 : decode cX3_ratio 21 = .ok (.dload 4, 2) := by decide +kernel
theorem dX3_ratio_23 : decode cX3_ratio 23 = .ok (.dmul, 1) := by decide +kernel
theorem dX3_ratio_24 : decode cX3_ratio 24 = .ok (.dload 10, 2) := by decide +kernel
theorem dX3_ratio_26 : decode cX3_ratio 26 = .ok (.dadd, 1) := by decide +kernel
theorem dX3_ratio_27 : decode cX3_ratio 27 = .ok (.dmul, 1) := by decide +kernel
theorem dX3_ratio_28 : decode cX3_ratio 28 = .ok (.dload_n 2, 1) := by decide +kernel
theorem dX3_ratio_29 : decode cX3_ratio 29 = .ok (.dload 8, 2) := by decide +kernel
theorem dX3_ratio_31 : decode cX3_ratio 31 = .ok (.dadd, 1) := by decide +kernel
theorem dX3_ratio_32 : decode cX3_ratio 32 = .ok (.dload 6, 2) := by decide +kernel
theorem dX3_ratio_34 : decode cX3_ratio 34 = .ok (.dload 10, 2) := by decide +kernel
theorem dX3_ratio_36 : decode cX3_ratio 36 = .ok (.dadd, 1) := by decide +kernel
theorem dX3_ratio_37 : decode cX3_ratio 37 = .ok (.dmul, 1) := by decide +kernel
theorem dX3_ratio_38 : decode cX3_ratio 38 = .ok (.ddiv, 1) := by decide +kernel
theorem dX3_ratio_39 : decode cX3_ratio 39 = .ok (.dreturn, 1) := by decide +kernel
set_option maxRecDepth 20000 in
theorem ggX4_init_X4_nearest : GoodIn wsX4_init wsX4_nearest := goodIn_r _ [29, 30, 31, 32, 33, 34, 35, 36] (by decide +kernel) (by decide +kernel)
set_option maxRecDepth 20000 in
theorem gX4_init_X4_nearest : GoodIn wsX4_init (va_wsS RX4 9 yX4_nearest wsX4_nearest) := goodIn_app (goodIn_of _ (by decide +kernel)) ggX4_init_X4_nearest
set_option maxRecDepth 20000 in
theorem ggX4_init_X4_scalesOf : GoodIn wsX4_init wsX4_scalesOf := goodIn_r _ [39, 30, 31, 32, 33] (by decide +kernel) (by decide +kernel)
set_option maxRecDepth 20000 in
theorem gX4_init_X4_scalesOf : GoodIn wsX4_init (va_wsS RX4 23 yX4_scalesOf wsX4_scalesOf) := goodIn_app (goodIn_of _ (by decide +kernel)) ggX4_init_X4_scalesOf
set_option maxRecDepth 20000 in
theorem ggX4_init_X2_init : GoodIn wsX4_init wsX2_init := goodIn_r _ [42, 43, 2, 3, 44, 45, 46, 82, 83] (by decide +kernel) (by decide +kernel)
set_option maxRecDepth 20000 in
theorem gX4_init_X2_init : GoodIn wsX4_init (wsX2_init) := ggX4_init_X2_init
set_option maxRecDepth 20000 in
theorem ggX4_init_X3_init : GoodIn wsX4_init wsX3_init := goodIn_r _ [49, 50, 2, 3, 51, 52, 45, 53, 54, 84, 85, 86, 87, 88, 89] (by decide +kernel) (by decide +kernel)
set_option maxRecDepth 20000 in
theorem gX4_init_X3_init : GoodIn wsX4_init (wsX3_init) := ggX4_init_X3_init
set_option maxRecDepth 20000 in
theorem ggX4_init_X1_init : GoodIn wsX4_init wsX1_init := goodIn_r _ [57, 58, 2, 3, 59, 60, 61, 45, 62, 63, 64, 65, 90, 91, 92, 93, 94, 95, 96] (by decide +kernel) (by decide +kernel)
set_option maxRecDepth 20000 in
theorem gX4_init_X1_init : GoodIn wsX4_init (wsX1_init) := ggX4_init_X1_init
set_option maxRecDepth 20000 in
theorem ggX4_init_X0_init : GoodIn wsX4_init wsX0_init := goodIn_r _ [67, 68, 2, 3, 69, 70, 71, 97, 98, 99] (by decide +kernel) (by decide +kernel)
set_option maxRecDepth 20000 in
theorem gX4_init_X0_init_n64 : GoodIn wsX4_init (wsX0_init) := ggX4_init_X0_init
theorem dX4_init_0 : decode cX4_init 0 = .ok (.aload_n 0, 1) := by decide +kernel
theorem dX4_init_1 : decode cX4_init 1 = .ok (.invokespecial 1, 3) := by decide +kernel
theorem dX4_init_4 : decode cX4_init 4 = .ok (.aload_n 0, 1) := by decide +kernel
theorem dX4_init_5 : decode cX4_init 5 = .ok (.iload_n 1, 1) := by decide +kernel
theorem dX4_init_6 : decode cX4_init 6 = .ok (.bipush 24, 2) := by decide +kernel
theorem dX4_init_8 : decode cX4_init 8 = .ok (.invokestatic 9, 3) := by decide +kernel
theorem dX4_init_11 : decode cX4_init 11 = .ok (.putfield 13, 3) := by decide +kernel
theorem dX4_init_14 : decode cX4_init 14 = .ok (.aload_n 0, 1) := by decide +kernel
theorem dX4_init_15 : decode cX4_init 15 = .ok (.iload_n 2, 1) := by decide +kernel
theorem dX4_init_16 : decode cX4_init 16 = .ok (.bipush 24, 2) := by decide +kernel
theorem dX4_init_18 : decode cX4_init 18 = .ok (.invokestatic 9, 3) := by decide +kernel
theorem dX4_init_21 : decode cX4_init 21 = .ok (.putfield 17, 3) := by decide +kernel
theorem dX4_init_24 : decode cX4_init 24 = .ok (.aload_n 0, 1) := by decide +kernel
theorem dX4_init_25 : decode cX4_init 25 = .ok (.iload_n 3, 1) := by decide +kernel
theorem dX4_init_26 : decode cX4_init 26 = .ok (.iconst 3, 1) := by decide +kernel
theorem dX4_init_27 : decode cX4_init 27 = .ok (.invokestatic 9, 3) := by decide +kernel
theorem dX4_init_30 : decode cX4_init 30 = .ok (.putfield 20, 3) := by decide +kernel
theorem dX4_init_33 : decode cX4_init 33 = .ok (.aload_n 0, 1) := by decide +kernel
theorem dX4_init_34 : decode cX4_init 34 = .ok (.aload_n 0, 1) := by decide +kernel
theorem dX4_init_35 : decode cX4_init 35 = .ok (.getfield 13, 3) := by decide +kernel
theorem dX4_init_38 : decode cX4_init 38 = .ok (.aload_n 0, 1) := by decide +kernel
theorem dX4_init_39 : decode cX4_init 39 = .ok (.getfield 17, 3) := by decide +kernel
theorem dX4_init_42 : decode cX4_init 42 = .ok (.invokestatic 23, 3) := by decide +kernel
theorem dX4_init_45 : decode cX4_init 45 = .ok (.putfield 26, 3) := by decide +kernel
theorem dX4_init_48 : decode cX4_init 48 = .ok (.aload_n 0, 1) := by decide +kernel
theorem dX4_init_49 : decode cX4_init 49 = .ok (.new 29, 3) := by decide +kernel
theorem dX4_init_52 : decode cX4_init 52 = .ok (.dup, 1) := by decide +kernel
theorem dX4_init_53 : decode cX4_init 53 = .ok (.aload_n 0, 1) := by decide +kernel
theorem dX4_init_54 : decode cX4_init 54 = .ok (.getfield 13, 3) := by decide +kernel
theorem dX4_init_57 : decode cX4_init 57 = .ok (.aload_n 0, 1) := by decide +kernel
theorem dX4_init_58 : decode cX4_init 58 = .ok (.getfield 17, 3) := by decide +kernel
theorem dX4_init_61 : decode cX4_init 61 = .ok (.imul, 1) := by decide +kernel
theorem dX4_init_62 : decode cX4_init 62 = .ok (.aload_n 0, 1) := by decide +kernel
theorem dX4_init_63 : decode cX4_init 63 = .ok (.getfield 20, 3) := by decide +kernel
theorem dX4_init_66 : decode cX4_init 66 = .ok (.invokespecial 31, 3) := by decide +kernel
theorem dX4_init_69 : decode cX4_init 69 = .ok (.putfield 34, 3) := by decide +kernel
theorem dX4_init_72 : decode cX4_init 72 = .ok (.aload_n 0, 1) := by decide +kernel
theorem dX4_init_73 : decode cX4_init 73 = .ok (.new 29, 3) := by decide +kernel
theorem dX4_init_76 : decode cX4_init 76 = .ok (.dup, 1) := by decide +kernel
theorem dX4_init_77 : decode cX4_init 77 = .ok (.aload_n 0, 1) := by decide +kernel
theorem dX4_init_78 : decode cX4_init 78 = .ok (.getfield 13, 3) := by decide +kernel
theorem dX4_init_81 : decode cX4_init 81 = .ok (.aload_n 0, 1) := by decide +kernel
theorem dX4_init_82 : decode cX4_init 82 = .ok (.getfield 17, 3) := by decide +kernel
theorem dX4_init_85 : decode cX4_init 85 = .ok (.imul, 1) := by decide +kernel
theorem dX4_init_86 : decode cX4_init 86 = .ok (.aload_n 0, 1) := by decide +kernel
theorem dX4_init_87 : decode cX4_init 87 = .ok (.getfield 20, 3) := by decide +kernel
theorem dX4_init_90 : decode cX4_init 90 = .ok (.invokespecial 31, 3) := by decide +kernel
theorem dX4_init_93 : decode cX4_init 93 = .ok (.putfield 38, 3) := by decide +kernel
theorem dX4_init_96 : decode cX4_init 96 = .ok (.aload_n 0, 1) := by decide +kernel
theorem dX4_init_97 : decode cX4_init 97 = .ok (.new 41, 3) := by decide +kernel
theorem dX4_init_100 : decode cX4_init 100 = .ok (.dup, 1) := by decide +kernel
theorem dX4_init_101 : decode cX4_init 101 = .ok (.aload_n 0, 1) := by decide +kernel
theorem dX4_init_102 : decode cX4_init 102 = .ok (.getfield 13, 3) := by decide +kernel
theorem dX4_init_105 : decode cX4_init 105 = .ok (.aload_n 0, 1) := by decide +kernel
theorem dX4_init_106 : decode cX4_init 106 = .ok (.getfield 17, 3) := by decide +kernel
theorem dX4_init_109 : decode cX4_init 109 = .ok (.invokespecial 43, 3) := by decide +kernel
theorem dX4_init_112 : decode cX4_init 112 = .ok (.putfield 44, 3) := by decide +kernel
theorem dX4_init_115 : decode cX4_init 115 = .ok (.aload_n 0, 1) := by decide +kernel
theorem dX4_init_116 : decode cX4_init 116 = .ok (.new 48, 3) := by decide +kernel
theorem dX4_init_119 : decode cX4_init 119 = .ok (.dup, 1) := by decide +kernel
theorem dX4_init_120 : decode cX4_init 120 = .ok (.aload_n 0, 1) := by decide +kernel
theorem dX4_init_121 : decode cX4_init 121 = .ok (.getfield 13, 3) := by decide +kernel
theorem dX4_init_124 : decode cX4_init 124 = .ok (.aload_n 0, 1) := by decide +kernel
theorem dX4_init_125 : decode cX4_init 125 = .ok (.getfield 17, 3) := by decide +kernel
theorem dX4_init_128 : decode cX4_init 128 = .ok (.invokespecial 50, 3) := by decide +kernel
theorem dX4_init_131 : decode cX4_init 131 = .ok (.putfield 51, 3) := by decide +kernel
theorem dX4_init_134 : decode cX4_init 134 = .ok (.aload_n 0, 1) := by decide +kernel
theorem dX4_init_135 : decode cX4_init 135 = .ok (.new 48, 3) := by decide +kernel
theorem dX4_init_138 : decode cX4_init 138 = .ok (.dup, 1) := by decide +kernel
theorem dX4_init_139 : decode cX4_init 139 = .ok (.aload_n 0, 1) := by decide +kernel
theorem dX4_init_140 : decode cX4_init 140 = .ok (.getfield 13, 3) := by decide +kernel
theorem dX4_init_143 : decode cX4_init 143 = .ok (.aload_n 0, 1) := by decide +kernel
theorem dX4_init_144 : decode cX4_init 144 = .ok (.getfield 17, 3) := by decide +kernel
theorem dX4_init_147 : decode cX4_init 147 = .ok (.invokespecial 50, 3) := by decide +kernel
theorem dX4_init_150 : decode cX4_init 150 = .ok (.putfield 55, 3) := by decide +kernel
theorem dX4_init_153 : decode cX4_init 153 = .ok (.aload_n 0, 1) := by decide +kernel
theorem dX4_init_154 : decode cX4_init 154 = .ok (.bipush 8, 2) := by decide +kernel
theorem dX4_init_156 : decode cX4_init 156 = .ok (.anewarray 58, 3) := by decide +kernel
theorem dX4_init_159 : decode cX4_init 159 = .ok (.putfield 60, 3) := by decide +kernel
theorem dX4_init_162 : decode cX4_init 162 = .ok (.iconst 0, 1) := by decide +kernel
theorem dX4_init_163 : decode cX4_init 163 = .ok (.istore 4, 2) := by decide +kernel
theorem dX4_init_165 : decode cX4_init 165 = .ok (.iload 4, 2) := by decide +kernel
theorem dX4_init_167 : decode cX4_init 167 = .ok (.aload_n 0, 1) := by decide +kernel
theorem dX4_init_168 : decode cX4_init 168 = .ok (.getfield 60, 3) := by decide +kernel
theorem dX4_init_171 : decode cX4_init 171 = .ok (.arraylength, 1) := by decide +kernel
theorem dX4_init_172 : decode cX4_init 172 = .ok (.if_icmp .ge 23, 3) := by decide +kernel
theorem dX4_init_175 : decode cX4_init 175 = .ok (.aload_n 0, 1) := by decide +kernel
theorem dX4_init_176 : decode cX4_init 176 = .ok (.getfield 60, 3) := by decide +kernel
theorem dX4_init_179 : decode cX4_init 179 = .ok (.iload 4, 2) := by decide +kernel
theorem dX4_init_181 : decode cX4_init 181 = .ok (.new 58, 3) := by decide +kernel
theorem dX4_init_184 : decode cX4_init 184 = .ok (.dup, 1) := by decide +kernel
theorem dX4_init_185 : decode cX4_init 185 = .ok (.invokespecial 64, 3) := by decide +kernel
theorem dX4_init_188 : decode cX4_init 188 = .ok (.aastore, 1) := by decide +kernel
theorem dX4_init_189 : decode cX4_init 189 = .ok (.iinc 4 1, 3) := by decide +kernel
theorem dX4_init_192 : decode cX4_init 192 = .ok (.goto (-27), 3) := by decide +kernel
theorem dX4_init_195 : decode cX4_init 195 = .ok (.return_, 1) := by decide +kernel
set_option maxRecDepth 20000 in
theorem ggX4_put_X4_hasPlace : GoodIn wsX4_put wsX4_hasPlace := goodIn_r _ [9, 10, 11, 34, 35, 36, 37, 38, 39, 40, 41, 42, 43] (by decide +kernel) (by decide +kernel)
set_option maxRecDepth 20000 in
theorem gX4_put_X4_hasPlace : GoodIn wsX4_put (wsV RX4 65 RX4 yX4_hasPlace wsX4_hasPlace) := goodIn_app (goodIn_of _ (by decide +kernel)) ggX4_put_X4_hasPlace
set_option maxRecDepth 20000 in
theorem ggX4_put_X4_hasChannel : GoodIn wsX4_put wsX4_hasChannel := goodIn_r _ [15, 16, 34, 35, 36, 37, 38, 39, 40, 41, 42, 43] (by decide +kernel) (by decide +kernel)
set_option maxRecDepth 20000 in
theorem gX4_put_X4_hasChannel : GoodIn wsX4_put (wsV RX4 69 RX4 yX4_hasChannel wsX4_hasChannel) := goodIn_app (goodIn_of _ (by decide +kernel)) ggX4_put_X4_hasChannel
set_option maxRecDepth 20000 in
theorem ggX4_put_X4_pictureOf : GoodIn wsX4_put wsX4_pictureOf := goodIn_r _ [20, 21, 22, 34, 35, 36, 37, 38, 39, 40, 41, 42, 43] (by decide +kernel) (by decide +kernel)
set_option maxRecDepth 20000 in
theorem gX4_put_X4_pictureOf : GoodIn wsX4_put (wsV RX4 85 RX4 yX4_pictureOf wsX4_pictureOf) := goodIn_app (goodIn_of _ (by decide +kernel)) ggX4_put_X4_pictureOf
set_option maxRecDepth 20000 in
theorem ggX4_put_X4_placeOf : GoodIn wsX4_put wsX4_placeOf := goodIn_r _ [26, 10, 34, 35, 36, 37, 38, 39, 40, 41, 42, 43] (by decide +kernel) (by decide +kernel)
set_option maxRecDepth 20000 in
theorem gX4_put_X4_placeOf : GoodIn wsX4_put (wsV RX4 89 RX4 yX4_placeOf wsX4_placeOf) := goodIn_app (goodIn_of _ (by decide +kernel)) ggX4_put_X4_placeOf
set_option maxRecDepth 20000 in
theorem ggX4_put_X2_replace : GoodIn wsX4_put wsX2_replace := goodIn_r _ [31, 32, 33, 44, 45] (by decide +kernel) (by decide +kernel)
set_option maxRecDepth 20000 in
theorem gX4_put_X2_replace : GoodIn wsX4_put (wsV RX4 92 RX2 yX2_replace wsX2_replace) := goodIn_app (goodIn_of _ (by decide +kernel)) ggX4_put_X2_replace
theorem dX4_put_0 : decode cX4_put 0 = .ok (.aload_n 0, 1) := by decide +kernel
theorem dX4_put_1 : decode cX4_put 1 = .ok (.iload_n 2, 1) := by decide +kernel
theorem dX4_put_2 : decode cX4_put 2 = .ok (.iload_n 3, 1) := by decide +kernel
theorem dX4_put_3 : decode cX4_put 3 = .ok (.invokevirtual 65, 3) := by decide +kernel
theorem dX4_put_6 : decode cX4_put 6 = .ok (.ifCond .eq 12, 3) := by decide +kernel
theorem dX4_put_9 : decode cX4_put 9 = .ok (.aload_n 0, 1) := by decide +kernel
theorem dX4_put_10 : decode cX4_put 10 = .ok (.iload 4, 2) := by decide +kernel
theorem dX4_put_12 : decode cX4_put 12 = .ok (.invokevirtual 69, 3) := by decide +kernel
theorem dX4_put_15 : decode cX4_put 15 = .ok (.ifCond .ne 13, 3) := by decide +kernel
theorem dX4_put_18 : decode cX4_put 18 = .ok (.new 73, 3) := by decide +kernel
theorem dX4_put_21 : decode cX4_put 21 = .ok (.dup, 1) := by decide +kernel
theorem dX4_put_22 : decode cX4_put 22 = .ok (.ldc 75, 2) := by decide +kernel
theorem dX4_put_24 : decode cX4_put 24 = .ok (.invokespecial 77, 3) := by decide +kernel
theorem dX4_put_27 : decode cX4_put 27 = .ok (.athrow, 1) := by decide +kernel
theorem dX4_put_28 : decode cX4_put 28 = .ok (.iload 5, 2) := by decide +kernel
theorem dX4_put_30 : decode cX4_put 30 = .ok (.ifCond .lt 11, 3) := by decide +kernel
theorem dX4_put_33 : decode cX4_put 33 = .ok (.iload 5, 2) := by decide +kernel
theorem dX4_put_35 : decode cX4_put 35 = .ok (.sipush 255, 3) := by decide +kernel
theorem dX4_put_38 : decode cX4_put 38 = .ok (.if_icmp .le 13, 3) := by decide +kernel
theorem dX4_put_41 : decode cX4_put 41 = .ok (.new 80, 3) := by decide +kernel
theorem dX4_put_44 : decode cX4_put 44 = .ok (.dup, 1) := by decide +kernel
theorem dX4_put_45 : decode cX4_put 45 = .ok (.ldc 82, 2) := by decide +kernel
theorem dX4_put_47 : decode cX4_put 47 = .ok (.invokespecial 84, 3) := by decide +kernel
theorem dX4_put_50 : decode cX4_put 50 = .ok (.athrow, 1) := by decide +kernel
theorem dX4_put_51 : decode cX4_put 51 = .ok (.aload_n 0, 1) := by decide +kernel
theorem dX4_put_52 : decode cX4_put 52 = .ok (.iload_n 1, 1) := by decide +kernel
theorem dX4_put_53 : decode cX4_put 53 = .ok (.invokevirtual 85, 3) := by decide +kernel
theorem dX4_put_56 : decode cX4_put 56 = .ok (.aload_n 0, 1) := by decide +kernel
theorem dX4_put_57 : decode cX4_put 57 = .ok (.iload_n 2, 1) := by decide +kernel
theorem dX4_put_58 : decode cX4_put 58 = .ok (.iload_n 3, 1) := by decide +kernel
theorem dX4_put_59 : decode cX4_put 59 = .ok (.invokevirtual 89, 3) := by decide +kernel
theorem dX4_put_62 : decode cX4_put 62 = .ok (.iload 4, 2) := by decide +kernel
theorem dX4_put_64 : decode cX4_put 64 = .ok (.iload 5, 2) := by decide +kernel
theorem dX4_put_66 : decode cX4_put 66 = .ok (.invokevirtual 92, 3) := by decide +kernel
theorem dX4_put_69 : decode cX4_put 69 = .ok (.ireturn, 1) := by decide +kernel
set_option maxRecDepth 20000 in
theorem ggX4_paint_X4_pictureOf : GoodIn wsX4_paint wsX4_pictureOf := goodIn_r _ [5, 6, 7, 14, 15, 16, 17, 18, 19, 20, 21, 22, 23] (by decide +kernel) (by decide +kernel)
set_option maxRecDepth 20000 in
theorem gX4_paint_X4_pictureOf : GoodIn wsX4_paint (wsV RX4 85 RX4 yX4_pictureOf wsX4_pictureOf) := goodIn_app (goodIn_of _ (by decide +kernel)) ggX4_paint_X4_pictureOf
set_option maxRecDepth 20000 in
theorem ggX4_paint_X2_fill : GoodIn wsX4_paint wsX2_fill := goodIn_r _ [12, 13, 24, 25] (by decide +kernel) (by decide +kernel)
set_option maxRecDepth 20000 in
theorem gX4_paint_X2_fill : GoodIn wsX4_paint (wsV RX4 96 RX2 yX2_fill wsX2_fill) := goodIn_app (goodIn_of _ (by decide +kernel)) ggX4_paint_X2_fill
theorem dX4_paint_0 : decode cX4_paint 0 = .ok (.aload_n 0, 1) := by decide +kernel
theorem dX4_paint_1 : decode cX4_paint 1 = .ok (.iload_n 1, 1) := by decide +kernel
theorem dX4_paint_2 : decode cX4_paint 2 = .ok (.invokevirtual 85, 3) := by decide +kernel
theorem dX4_paint_5 : decode cX4_paint 5 = .ok (.iload_n 2, 1) := by decide +kernel
theorem dX4_paint_6 : decode cX4_paint 6 = .ok (.iload_n 3, 1) := by decide +kernel
theorem dX4_paint_7 : decode cX4_paint 7 = .ok (.invokevirtual 96, 3) := by decide +kernel
theorem dX4_paint_10 : decode cX4_paint 10 = .ok (.ireturn, 1) := by decide +kernel
set_option maxRecDepth 20000 in
theorem ggX4_copy_X2_become : GoodIn wsX4_copy wsX2_become := goodIn_r _ [7, 8, 19, 20] (by decide +kernel) (by decide +kernel)
set_option maxRecDepth 20000 in
theorem gX4_copy_X2_become : GoodIn wsX4_copy (wsV RX4 99 RX2 yX2_become wsX2_become) := goodIn_app (goodIn_of _ (by decide +kernel)) ggX4_copy_X2_become
theorem dX4_copy_0 : decode cX4_copy 0 = .ok (.aload_n 0, 1) := by decide +kernel
theorem dX4_copy_1 : decode cX4_copy 1 = .ok (.getfield 38, 3) := by decide +kernel
theorem dX4_copy_4 : decode cX4_copy 4 = .ok (.aload_n 0, 1) := by decide +kernel
theorem dX4_copy_5 : decode cX4_copy 5 = .ok (.getfield 34, 3) := by decide +kernel
theorem dX4_copy_8 : decode cX4_copy 8 = .ok (.invokevirtual 99, 3) := by decide +kernel
theorem dX4_copy_11 : decode cX4_copy 11 = .ok (.ireturn, 1) := by decide +kernel
set_option maxRecDepth 20000 in
theorem ggX4_squared_X4_hasChannel : GoodIn wsX4_squared wsX4_hasChannel := goodIn_r _ [11, 12, 23, 24, 25, 26, 27, 28, 29, 30, 31, 32] (by decide +kernel) (by decide +kernel)
set_option maxRecDepth 20000 in
theorem gX4_squared_X4_hasChannel : GoodIn wsX4_squared (wsV RX4 69 RX4 yX4_hasChannel wsX4_hasChannel) := goodIn_app (goodIn_of _ (by decide +kernel)) ggX4_squared_X4_hasChannel
set_option maxRecDepth 20000 in
theorem ggX4_squared_X2_squaresAgainst : GoodIn wsX4_squared wsX2_squaresAgainst := goodIn_r _ [17, 18, 19, 33, 34] (by decide +kernel) (by decide +kernel)
set_option maxRecDepth 20000 in
theorem gX4_squared_X2_squaresAgainst : GoodIn wsX4_squared (wsV RX4 105 RX2 yX2_squaresAgainst wsX2_squaresAgainst) := goodIn_app (goodIn_of _ (by decide +kernel)) ggX4_squared_X2_squaresAgainst
set_option maxRecDepth 20000 in
theorem ggX4_squared_X4_quotient : GoodIn wsX4_squared wsX4_quotient := goodIn_r _ [22] (by decide +kernel) (by decide +kernel)
set_option maxRecDepth 20000 in
theorem gX4_squared_X4_quotient : GoodIn wsX4_squared (va_wsS RX4 109 yX4_quotient wsX4_quotient) := goodIn_app (goodIn_of _ (by decide +kernel)) ggX4_squared_X4_quotient
theorem dX4_squared_0 : decode cX4_squared 0 = .ok (.aload_n 0, 1) := by decide +kernel
theorem dX4_squared_1 : decode cX4_squared 1 = .ok (.iload_n 1, 1) := by decide +kernel
theorem dX4_squared_2 : decode cX4_squared 2 = .ok (.invokevirtual 69, 3) := by decide +kernel
theorem dX4_squared_5 : decode cX4_squared 5 = .ok (.ifCond .ne 13, 3) := by decide +kernel
theorem dX4_squared_8 : decode cX4_squared 8 = .ok (.new 73, 3) := by decide +kernel
theorem dX4_squared_11 : decode cX4_squared 11 = .ok (.dup, 1) := by decide +kernel
theorem dX4_squared_12 : decode cX4_squared 12 = .ok (.ldc 103, 2) := by decide +kernel
theorem dX4_squared_14 : decode cX4_squared 14 = .ok (.invokespecial 77, 3) := by decide +kernel
theorem dX4_squared_17 : decode cX4_squared 17 = .ok (.athrow, 1) := by decide +kernel
theorem dX4_squared_18 : decode cX4_squared 18 = .ok (.aload_n 0, 1) := by decide +kernel
theorem dX4_squared_19 : decode cX4_squared 19 = .ok (.getfield 34, 3) := by decide +kernel
theorem dX4_squared_22 : decode cX4_squared 22 = .ok (.aload_n 0, 1) := by decide +kernel
theorem dX4_squared_23 : decode cX4_squared 23 = .ok (.getfield 38, 3) := by decide +kernel
theorem dX4_squared_26 : decode cX4_squared 26 = .ok (.iload_n 1, 1) := by decide +kernel
theorem dX4_squared_27 : decode cX4_squared 27 = .ok (.invokevirtual 105, 3) := by decide +kernel
theorem dX4_squared_30 : decode cX4_squared 30 = .ok (.lstore_n 2, 1) := by decide +kernel
theorem dX4_squared_31 : decode cX4_squared 31 = .ok (.lload_n 2, 1) := by decide +kernel
theorem dX4_squared_32 : decode cX4_squared 32 = .ok (.aload_n 0, 1) := by decide +kernel
theorem dX4_squared_33 : decode cX4_squared 33 = .ok (.getfield 13, 3) := by decide +kernel
theorem dX4_squared_36 : decode cX4_squared 36 = .ok (.aload_n 0, 1) := by decide +kernel
theorem dX4_squared_37 : decode cX4_squared 37 = .ok (.getfield 17, 3) := by decide +kernel
theorem dX4_squared_40 : decode cX4_squared 40 = .ok (.imul, 1) := by decide +kernel
theorem dX4_squared_41 : decode cX4_squared 41 = .ok (.invokestatic 109, 3) := by decide +kernel
theorem dX4_squared_44 : decode cX4_squared 44 = .ok (.dreturn, 1) := by decide +kernel
set_option maxRecDepth 20000 in
theorem ggX4_greatest_X2_greatestAgainst : GoodIn wsX4_greatest wsX2_greatestAgainst := goodIn_r _ [7, 8, 9, 10, 11, 12, 13, 14, 15, 26, 27] (by decide +kernel) (by decide +kernel)
set_option maxRecDepth 20000 in
theorem gX4_greatest_X2_greatestAgainst : GoodIn wsX4_greatest (wsV RX4 113 RX2 yX2_greatestAgainst wsX2_greatestAgainst) := goodIn_app (goodIn_of _ (by decide +kernel)) ggX4_greatest_X2_greatestAgainst
theorem dX4_greatest_0 : decode cX4_greatest 0 = .ok (.aload_n 0, 1) := by decide +kernel
theorem dX4_greatest_1 : decode cX4_greatest 1 = .ok (.getfield 34, 3) := by decide +kernel
theorem dX4_greatest_4 : decode cX4_greatest 4 = .ok (.aload_n 0, 1) := by decide +kernel
theorem dX4_greatest_5 : decode cX4_greatest 5 = .ok (.getfield 38, 3) := by decide +kernel
theorem dX4_greatest_8 : decode cX4_greatest 8 = .ok (.invokevirtual 113, 3) := by decide +kernel
theorem dX4_greatest_11 : decode cX4_greatest 11 = .ok (.ireturn, 1) := by decide +kernel
set_option maxRecDepth 20000 in
theorem ggX4_grey_X4_hasPlace : GoodIn wsX4_grey wsX4_hasPlace := goodIn_r _ [7, 8, 9, 27, 28, 29, 30, 31, 32, 33, 34, 35, 36] (by decide +kernel) (by decide +kernel)
set_option maxRecDepth 20000 in
theorem gX4_grey_X4_hasPlace : GoodIn wsX4_grey (wsV RX4 65 RX4 yX4_hasPlace wsX4_hasPlace) := goodIn_app (goodIn_of _ (by decide +kernel)) ggX4_grey_X4_hasPlace
set_option maxRecDepth 20000 in
theorem ggX4_grey_X4_pictureOf : GoodIn wsX4_grey wsX4_pictureOf := goodIn_r _ [13, 14, 15, 27, 28, 29, 30, 31, 32, 33, 34, 35, 36] (by decide +kernel) (by decide +kernel)
set_option maxRecDepth 20000 in
theorem gX4_grey_X4_pictureOf : GoodIn wsX4_grey (wsV RX4 85 RX4 yX4_pictureOf wsX4_pictureOf) := goodIn_app (goodIn_of _ (by decide +kernel)) ggX4_grey_X4_pictureOf
set_option maxRecDepth 20000 in
theorem ggX4_grey_X4_placeOf : GoodIn wsX4_grey wsX4_placeOf := goodIn_r _ [19, 8, 27, 28, 29, 30, 31, 32, 33, 34, 35, 36] (by decide +kernel) (by decide +kernel)
set_option maxRecDepth 20000 in
theorem gX4_grey_X4_placeOf : GoodIn wsX4_grey (wsV RX4 89 RX4 yX4_placeOf wsX4_placeOf) := goodIn_app (goodIn_of _ (by decide +kernel)) ggX4_grey_X4_placeOf
set_option maxRecDepth 20000 in
theorem ggX4_grey_X2_greyAt : GoodIn wsX4_grey wsX2_greyAt := goodIn_r _ [24, 25, 26, 37, 38] (by decide +kernel) (by decide +kernel)
set_option maxRecDepth 20000 in
theorem gX4_grey_X2_greyAt : GoodIn wsX4_grey (wsV RX4 118 RX2 yX2_greyAt wsX2_greyAt) := goodIn_app (goodIn_of _ (by decide +kernel)) ggX4_grey_X2_greyAt
theorem dX4_grey_0 : decode cX4_grey 0 = .ok (.aload_n 0, 1) := by decide +kernel
theorem dX4_grey_1 : decode cX4_grey 1 = .ok (.iload_n 2, 1) := by decide +kernel
theorem dX4_grey_2 : decode cX4_grey 2 = .ok (.iload_n 3, 1) := by decide +kernel
theorem dX4_grey_3 : decode cX4_grey 3 = .ok (.invokevirtual 65, 3) := by decide +kernel
theorem dX4_grey_6 : decode cX4_grey 6 = .ok (.ifCond .ne 13, 3) := by decide +kernel
theorem dX4_grey_9 : decode cX4_grey 9 = .ok (.new 73, 3) := by decide +kernel
theorem dX4_grey_12 : decode cX4_grey 12 = .ok (.dup, 1) := by decide +kernel
theorem dX4_grey_13 : decode cX4_grey 13 = .ok (.ldc 116, 2) := by decide +kernel
theorem dX4_grey_15 : decode cX4_grey 15 = .ok (.invokespecial 77, 3) := by decide +kernel
theorem dX4_grey_18 : decode cX4_grey 18 = .ok (.athrow, 1) := by decide +kernel
theorem dX4_grey_19 : decode cX4_grey 19 = .ok (.aload_n 0, 1) := by decide +kernel
theorem dX4_grey_20 : decode cX4_grey 20 = .ok (.iload_n 1, 1) := by decide +kernel
theorem dX4_grey_21 : decode cX4_grey 21 = .ok (.invokevirtual 85, 3) := by decide +kernel
theorem dX4_grey_24 : decode cX4_grey 24 = .ok (.aload_n 0, 1) := by decide +kernel
theorem dX4_grey_25 : decode cX4_grey 25 = .ok (.iload_n 2, 1) := by decide +kernel
theorem dX4_grey_26 : decode cX4_grey 26 = .ok (.iload_n 3, 1) := by decide +kernel
theorem dX4_grey_27 : decode cX4_grey 27 = .ok (.invokevirtual 89, 3) := by decide +kernel
theorem dX4_grey_30 : decode cX4_grey 30 = .ok (.invokevirtual 118, 3) := by decide +kernel
theorem dX4_grey_33 : decode cX4_grey 33 = .ok (.ireturn, 1) := by decide +kernel
set_option maxRecDepth 20000 in
theorem ggX4_structure_X3_readFrom : GoodIn wsX4_structure wsX3_readFrom := goodIn_r _ [13, 14, 15, 16, 17, 18, 19, 20, 21, 22, 23, 24, 25, 26, 60, 61, 62, 63, 64, 65, 66, 67] (by decide +kernel) (by decide +kernel)
set_option maxRecDepth 20000 in
theorem gX4_structure_X3_readFrom : GoodIn wsX4_structure (wsV RX4 129 RX3 yX3_readFrom wsX3_readFrom) := goodIn_app (goodIn_of _ (by decide +kernel)) ggX4_structure_X3_readFrom
set_option maxRecDepth 20000 in
theorem ggX4_structure_X3_halve : GoodIn wsX4_structure wsX3_halve := goodIn_r _ [30, 18, 19, 15, 17, 31, 32, 33, 12, 34, 60, 61, 62, 63, 64, 65] (by decide +kernel) (by decide +kernel)
set_option maxRecDepth 20000 in
theorem gX4_structure_X3_halve : GoodIn wsX4_structure (wsV RX4 133 RX3 yX3_halve wsX3_halve) := goodIn_app (goodIn_of _ (by decide +kernel)) ggX4_structure_X3_halve
set_option maxRecDepth 20000 in
theorem ggX4_structure_X3_averageLikeness : GoodIn wsX4_structure wsX3_averageLikeness := goodIn_r _ [38, 17, 15, 39, 40, 41, 12, 42, 18, 19, 43, 44, 45, 46, 47, 48, 49, 60, 61, 62, 63, 64, 65] (by decide +kernel) (by decide +kernel)
set_option maxRecDepth 20000 in
theorem gX4_structure_X3_averageLikeness : GoodIn wsX4_structure (wsV RX4 136 RX3 yX3_averageLikeness wsX3_averageLikeness) := goodIn_app (goodIn_of _ (by decide +kernel)) ggX4_structure_X3_averageLikeness
theorem dX4_structure_0 : decode cX4_structure 0 = .ok (.iload_n 1, 1) := by decide +kernel
theorem dX4_structure_1 : decode cX4_structure 1 = .ok (.ifCond .lt 8, 3) := by decide +kernel
theorem dX4_structure_4 : decode cX4_structure 4 = .ok (.iload_n 1, 1) := by decide +kernel
theorem dX4_structure_5 : decode cX4_structure 5 = .ok (.iconst 4, 1) := by decide +kernel
theorem dX4_structure_6 : decode cX4_structure 6 = .ok (.if_icmp .le 13, 3) := by decide +kernel
theorem dX4_structure_9 : decode cX4_structure 9 = .ok (.new 80, 3) := by decide +kernel
theorem dX4_structure_12 : decode cX4_structure 12 = .ok (.dup, 1) := by decide +kernel
theorem dX4_structure_13 : decode cX4_structure 13 = .ok (.ldc 122, 2) := by decide +kernel
theorem dX4_structure_15 : decode cX4_structure 15 = .ok (.invokespecial 84, 3) := by decide +kernel
theorem dX4_structure_18 : decode cX4_structure 18 = .ok (.athrow, 1) := by decide +kernel
theorem dX4_structure_19 : decode cX4_structure 19 = .ok (.iload_n 1, 1) := by decide +kernel
theorem dX4_structure_20 : decode cX4_structure 20 = .ok (.aload_n 0, 1) := by decide +kernel
theorem dX4_structure_21 : decode cX4_structure 21 = .ok (.getfield 26, 3) := by decide +kernel
theorem dX4_structure_24 : decode cX4_structure 24 = .ok (.if_icmp .lt 13, 3) := by decide +kernel
theorem dX4_structure_27 : decode cX4_structure 27 = .ok (.new 124, 3) := by decide +kernel
theorem dX4_structure_30 : decode cX4_structure 30 = .ok (.dup, 1) := by decide +kernel
theorem dX4_structure_31 : decode cX4_structure 31 = .ok (.ldc 126, 2) := by decide +kernel
theorem dX4_structure_33 : decode cX4_structure 33 = .ok (.invokespecial 128, 3) := by decide +kernel
theorem dX4_structure_36 : decode cX4_structure 36 = .ok (.athrow, 1) := by decide +kernel
theorem dX4_structure_37 : decode cX4_structure 37 = .ok (.aload_n 0, 1) := by decide +kernel
theorem dX4_structure_38 : decode cX4_structure 38 = .ok (.getfield 44, 3) := by decide +kernel
theorem dX4_structure_41 : decode cX4_structure 41 = .ok (.aload_n 0, 1) := by decide +kernel
theorem dX4_structure_42 : decode cX4_structure 42 = .ok (.getfield 34, 3) := by decide +kernel
theorem dX4_structure_45 : decode cX4_structure 45 = .ok (.aload_n 0, 1) := by decide +kernel
theorem dX4_structure_46 : decode cX4_structure 46 = .ok (.getfield 38, 3) := by decide +kernel
theorem dX4_structure_49 : decode cX4_structure 49 = .ok (.invokevirtual 129, 3) := by decide +kernel
theorem dX4_structure_52 : decode cX4_structure 52 = .ok (.iconst 0, 1) := by decide +kernel
theorem dX4_structure_53 : decode cX4_structure 53 = .ok (.istore_n 2, 1) := by decide +kernel
theorem dX4_structure_54 : decode cX4_structure 54 = .ok (.iload_n 2, 1) := by decide +kernel
theorem dX4_structure_55 : decode cX4_structure 55 = .ok (.iload_n 1, 1) := by decide +kernel
theorem dX4_structure_56 : decode cX4_structure 56 = .ok (.if_icmp .ge 16, 3) := by decide +kernel
theorem dX4_structure_59 : decode cX4_structure 59 = .ok (.aload_n 0, 1) := by decide +kernel
theorem dX4_structure_60 : decode cX4_structure 60 = .ok (.getfield 44, 3) := by decide +kernel
theorem dX4_structure_63 : decode cX4_structure 63 = .ok (.invokevirtual 133, 3) := by decide +kernel
theorem dX4_structure_66 : decode cX4_structure 66 = .ok (.iinc 2 1, 3) := by decide +kernel
theorem dX4_structure_69 : decode cX4_structure 69 = .ok (.goto (-15), 3) := by decide +kernel
theorem dX4_structure_72 : decode cX4_structure 72 = .ok (.aload_n 0, 1) := by decide +kernel
theorem dX4_structure_73 : decode cX4_structure 73 = .ok (.getfield 44, 3) := by decide +kernel
theorem dX4_structure_76 : decode cX4_structure 76 = .ok (.invokevirtual 136, 3) := by decide +kernel
theorem dX4_structure_79 : decode cX4_structure 79 = .ok (.dreturn, 1) := by decide +kernel
set_option maxRecDepth 20000 in
theorem ggX4_map_X3_readFrom : GoodIn wsX4_map wsX3_readFrom := goodIn_r _ [12, 13, 14, 15, 16, 17, 18, 19, 20, 21, 22, 23, 24, 25, 47, 48, 49, 50, 51, 52, 53, 54] (by decide +kernel) (by decide +kernel)
set_option maxRecDepth 20000 in
theorem gX4_map_X3_readFrom : GoodIn wsX4_map (wsV RX4 129 RX3 yX3_readFrom wsX3_readFrom) := goodIn_app (goodIn_of _ (by decide +kernel)) ggX4_map_X3_readFrom
set_option maxRecDepth 20000 in
theorem ggX4_map_X3_likenessAt : GoodIn wsX4_map wsX3_likenessAt := goodIn_r _ [29, 14, 17, 18, 30, 31, 32, 11, 33, 34, 35, 36, 47, 48, 49, 50, 51, 52] (by decide +kernel) (by decide +kernel)
set_option maxRecDepth 20000 in
theorem gX4_map_X3_likenessAt : GoodIn wsX4_map (wsV RX4 142 RX3 yX3_likenessAt wsX3_likenessAt) := goodIn_app (goodIn_of _ (by decide +kernel)) ggX4_map_X3_likenessAt
theorem dX4_map_0 : decode cX4_map 0 = .ok (.iload_n 1, 1) := by decide +kernel
theorem dX4_map_1 : decode cX4_map 1 = .ok (.iconst 2, 1) := by decide +kernel
theorem dX4_map_2 : decode cX4_map 2 = .ok (.if_icmp .lt 28, 3) := by decide +kernel
theorem dX4_map_5 : decode cX4_map 5 = .ok (.iload_n 1, 1) := by decide +kernel
theorem dX4_map_6 : decode cX4_map 6 = .ok (.aload_n 0, 1) := by decide +kernel
theorem dX4_map_7 : decode cX4_map 7 = .ok (.getfield 13, 3) := by decide +kernel
theorem dX4_map_10 : decode cX4_map 10 = .ok (.iconst 2, 1) := by decide +kernel
theorem dX4_map_11 : decode cX4_map 11 = .ok (.isub, 1) := by decide +kernel
theorem dX4_map_12 : decode cX4_map 12 = .ok (.if_icmp .ge 18, 3) := by decide +kernel
theorem dX4_map_15 : decode cX4_map 15 = .ok (.iload_n 2, 1) := by decide +kernel
theorem dX4_map_16 : decode cX4_map 16 = .ok (.iconst 2, 1) := by decide +kernel
theorem dX4_map_17 : decode cX4_map 17 = .ok (.if_icmp .lt 13, 3) := by decide +kernel
theorem dX4_map_20 : decode cX4_map 20 = .ok (.iload_n 2, 1) := by decide +kernel
theorem dX4_map_21 : decode cX4_map 21 = .ok (.aload_n 0, 1) := by decide +kernel
theorem dX4_map_22 : decode cX4_map 22 = .ok (.getfield 17, 3) := by decide +kernel
theorem dX4_map_25 : decode cX4_map 25 = .ok (.iconst 2, 1) := by decide +kernel
theorem dX4_map_26 : decode cX4_map 26 = .ok (.isub, 1) := by decide +kernel
theorem dX4_map_27 : decode cX4_map 27 = .ok (.if_icmp .lt 13, 3) := by decide +kernel
theorem dX4_map_30 : decode cX4_map 30 = .ok (.new 73, 3) := by decide +kernel
theorem dX4_map_33 : decode cX4_map 33 = .ok (.dup, 1) := by decide +kernel
theorem dX4_map_34 : decode cX4_map 34 = .ok (.ldc 140, 2) := by decide +kernel
theorem dX4_map_36 : decode cX4_map 36 = .ok (.invokespecial 77, 3) := by decide +kernel
theorem dX4_map_39 : decode cX4_map 39 = .ok (.athrow, 1) := by decide +kernel
theorem dX4_map_40 : decode cX4_map 40 = .ok (.aload_n 0, 1) := by decide +kernel
theorem dX4_map_41 : decode cX4_map 41 = .ok (.getfield 44, 3) := by decide +kernel
theorem dX4_map_44 : decode cX4_map 44 = .ok (.aload_n 0, 1) := by decide +kernel
theorem dX4_map_45 : decode cX4_map 45 = .ok (.getfield 34, 3) := by decide +kernel
theorem dX4_map_48 : decode cX4_map 48 = .ok (.aload_n 0, 1) := by decide +kernel
theorem dX4_map_49 : decode cX4_map 49 = .ok (.getfield 38, 3) := by decide +kernel
theorem dX4_map_52 : decode cX4_map 52 = .ok (.invokevirtual 129, 3) := by decide +kernel
theorem dX4_map_55 : decode cX4_map 55 = .ok (.aload_n 0, 1) := by decide +kernel
theorem dX4_map_56 : decode cX4_map 56 = .ok (.getfield 44, 3) := by decide +kernel
theorem dX4_map_59 : decode cX4_map 59 = .ok (.iload_n 1, 1) := by decide +kernel
theorem dX4_map_60 : decode cX4_map 60 = .ok (.iconst 2, 1) := by decide +kernel
theorem dX4_map_61 : decode cX4_map 61 = .ok (.isub, 1) := by decide +kernel
theorem dX4_map_62 : decode cX4_map 62 = .ok (.iload_n 2, 1) := by decide +kernel
theorem dX4_map_63 : decode cX4_map 63 = .ok (.iconst 2, 1) := by decide +kernel
theorem dX4_map_64 : decode cX4_map 64 = .ok (.isub, 1) := by decide +kernel
theorem dX4_map_65 : decode cX4_map 65 = .ok (.invokevirtual 142, 3) := by decide +kernel
theorem dX4_map_68 : decode cX4_map 68 = .ok (.dreturn, 1) := by decide +kernel
set_option maxRecDepth 20000 in
theorem ggX4_blocks_X4_stepTo : GoodIn wsX4_blocks wsX4_stepTo := goodIn_r _ [10, 11, 12, 13, 14, 15, 16, 17, 9, 18, 4, 19, 20, 21, 22, 23, 24, 25, 29, 30, 31, 32, 33, 34, 35, 36, 37, 38, 39, 40] (by decide +kernel) (by decide +kernel)
set_option maxRecDepth 20000 in
theorem gX4_blocks_X4_stepTo : GoodIn wsX4_blocks (wsV RX4 148 RX4 yX4_stepTo wsX4_stepTo) := goodIn_app (goodIn_of _ (by decide +kernel)) ggX4_blocks_X4_stepTo
set_option maxRecDepth 20000 in
theorem ggX4_blocks_X4_quotient : GoodIn wsX4_blocks wsX4_quotient := goodIn_r _ [28] (by decide +kernel) (by decide +kernel)
set_option maxRecDepth 20000 in
theorem gX4_blocks_X4_quotient : GoodIn wsX4_blocks (va_wsS RX4 109 yX4_quotient wsX4_quotient) := goodIn_app (goodIn_of _ (by decide +kernel)) ggX4_blocks_X4_quotient
theorem dX4_blocks_0 : decode cX4_blocks 0 = .ok (.iload_n 1, 1) := by decide +kernel
theorem dX4_blocks_1 : decode cX4_blocks 1 = .ok (.iconst 2, 1) := by decide +kernel
theorem dX4_blocks_2 : decode cX4_blocks 2 = .ok (.if_icmp .lt 9, 3) := by decide +kernel
theorem dX4_blocks_5 : decode cX4_blocks 5 = .ok (.iload_n 1, 1) := by decide +kernel
theorem dX4_blocks_6 : decode cX4_blocks 6 = .ok (.bipush 24, 2) := by decide +kernel
theorem dX4_blocks_8 : decode cX4_blocks 8 = .ok (.if_icmp .le 13, 3) := by decide +kernel
theorem dX4_blocks_11 : decode cX4_blocks 11 = .ok (.new 80, 3) := by decide +kernel
theorem dX4_blocks_14 : decode cX4_blocks 14 = .ok (.dup, 1) := by decide +kernel
theorem dX4_blocks_15 : decode cX4_blocks 15 = .ok (.ldc 146, 2) := by decide +kernel
theorem dX4_blocks_17 : decode cX4_blocks 17 = .ok (.invokespecial 84, 3) := by decide +kernel
theorem dX4_blocks_20 : decode cX4_blocks 20 = .ok (.athrow, 1) := by decide +kernel
theorem dX4_blocks_21 : decode cX4_blocks 21 = .ok (.iconst 0, 1) := by decide +kernel
theorem dX4_blocks_22 : decode cX4_blocks 22 = .ok (.istore_n 2, 1) := by decide +kernel
theorem dX4_blocks_23 : decode cX4_blocks 23 = .ok (.iconst 0, 1) := by decide +kernel
theorem dX4_blocks_24 : decode cX4_blocks 24 = .ok (.istore_n 3, 1) := by decide +kernel
theorem dX4_blocks_25 : decode cX4_blocks 25 = .ok (.lconst 0, 1) := by decide +kernel
theorem dX4_blocks_26 : decode cX4_blocks 26 = .ok (.lstore 4, 2) := by decide +kernel
theorem dX4_blocks_28 : decode cX4_blocks 28 = .ok (.lconst 0, 1) := by decide +kernel
theorem dX4_blocks_29 : decode cX4_blocks 29 = .ok (.lstore 6, 2) := by decide +kernel
theorem dX4_blocks_31 : decode cX4_blocks 31 = .ok (.iconst 0, 1) := by decide +kernel
theorem dX4_blocks_32 : decode cX4_blocks 32 = .ok (.istore 8, 2) := by decide +kernel
theorem dX4_blocks_34 : decode cX4_blocks 34 = .ok (.iload 8, 2) := by decide +kernel
theorem dX4_blocks_36 : decode cX4_blocks 36 = .ok (.aload_n 0, 1) := by decide +kernel
theorem dX4_blocks_37 : decode cX4_blocks 37 = .ok (.getfield 17, 3) := by decide +kernel
theorem dX4_blocks_40 : decode cX4_blocks 40 = .ok (.if_icmp .ge 73, 3) := by decide +kernel
theorem dX4_blocks_43 : decode cX4_blocks 43 = .ok (.iconst 1, 1) := by decide +kernel
theorem dX4_blocks_44 : decode cX4_blocks 44 = .ok (.istore 9, 2) := by decide +kernel
theorem dX4_blocks_46 : decode cX4_blocks 46 = .ok (.iload 9, 2) := by decide +kernel
theorem dX4_blocks_48 : decode cX4_blocks 48 = .ok (.aload_n 0, 1) := by decide +kernel
theorem dX4_blocks_49 : decode cX4_blocks 49 = .ok (.getfield 13, 3) := by decide +kernel
theorem dX4_blocks_52 : decode cX4_blocks 52 = .ok (.if_icmp .ge 55, 3) := by decide +kernel
theorem dX4_blocks_55 : decode cX4_blocks 55 = .ok (.aload_n 0, 1) := by decide +kernel
theorem dX4_blocks_56 : decode cX4_blocks 56 = .ok (.aload_n 0, 1) := by decide +kernel
theorem dX4_blocks_57 : decode cX4_blocks 57 = .ok (.getfield 38, 3) := by decide +kernel
theorem dX4_blocks_60 : decode cX4_blocks 60 = .ok (.iload 9, 2) := by decide +kernel
theorem dX4_blocks_62 : decode cX4_blocks 62 = .ok (.iload 8, 2) := by decide +kernel
theorem dX4_blocks_64 : decode cX4_blocks 64 = .ok (.invokevirtual 148, 3) := by decide +kernel
theorem dX4_blocks_67 : decode cX4_blocks 67 = .ok (.istore 10, 2) := by decide +kernel
theorem dX4_blocks_69 : decode cX4_blocks 69 = .ok (.iload 9, 2) := by decide +kernel
theorem dX4_blocks_71 : decode cX4_blocks 71 = .ok (.iload_n 1, 1) := by decide +kernel
theorem dX4_blocks_72 : decode cX4_blocks 72 = .ok (.irem, 1) := by decide +kernel
theorem dX4_blocks_73 : decode cX4_blocks 73 = .ok (.ifCond .ne 17, 3) := by decide +kernel
theorem dX4_blocks_76 : decode cX4_blocks 76 = .ok (.iinc 2 1, 3) := by decide +kernel
theorem dX4_blocks_79 : decode cX4_blocks 79 = .ok (.lload 4, 2) := by decide +kernel
theorem dX4_blocks_81 : decode cX4_blocks 81 = .ok (.iload 10, 2) := by decide +kernel
theorem dX4_blocks_83 : decode cX4_blocks 83 = .ok (.i2l, 1) := by decide +kernel
theorem dX4_blocks_84 : decode cX4_blocks 84 = .ok (.ladd, 1) := by decide +kernel
theorem dX4_blocks_85 : decode cX4_blocks 85 = .ok (.lstore 4, 2) := by decide +kernel
theorem dX4_blocks_87 : decode cX4_blocks 87 = .ok (.goto 14, 3) := by decide +kernel
theorem dX4_blocks_90 : decode cX4_blocks 90 = .ok (.iinc 3 1, 3) := by decide +kernel
theorem dX4_blocks_93 : decode cX4_blocks 93 = .ok (.lload 6, 2) := by decide +kernel
theorem dX4_blocks_95 : decode cX4_blocks 95 = .ok (.iload 10, 2) := by decide +kernel
theorem dX4_blocks_97 : decode cX4_blocks 97 = .ok (.i2l, 1) := by decide +kernel
theorem dX4_blocks_98 : decode cX4_blocks 98 = .ok (.ladd, 1) := by decide +kernel
theorem dX4_blocks_99 : decode cX4_blocks 99 = .ok (.lstore 6, 2) := by decide +kernel
theorem dX4_blocks_101 : decode cX4_blocks 101 = .ok (.iinc 9 1, 3) := by decide +kernel
theorem dX4_blocks_104 : decode cX4_blocks 104 = .ok (.goto (-58), 3) := by decide +kernel
theorem dX4_blocks_107 : decode cX4_blocks 107 = .ok (.iinc 8 1, 3) := by decide +kernel
theorem dX4_blocks_110 : decode cX4_blocks 110 = .ok (.goto (-76), 3) := by decide +kernel
theorem dX4_blocks_113 : decode cX4_blocks 113 = .ok (.iload_n 2, 1) := by decide +kernel
theorem dX4_blocks_114 : decode cX4_blocks 114 = .ok (.ifCond .eq 7, 3) := by decide +kernel
theorem dX4_blocks_117 : decode cX4_blocks 117 = .ok (.iload_n 3, 1) := by decide +kernel
theorem dX4_blocks_118 : decode cX4_blocks 118 = .ok (.ifCond .ne 5, 3) := by decide +kernel
theorem dX4_blocks_121 : decode cX4_blocks 121 = .ok (.dconst 0, 1) := by decide +kernel
theorem dX4_blocks_122 : decode cX4_blocks 122 = .ok (.dreturn, 1) := by decide +kernel
theorem dX4_blocks_123 : decode cX4_blocks 123 = .ok (.lload 4, 2) := by decide +kernel
theorem dX4_blocks_125 : decode cX4_blocks 125 = .ok (.iload_n 2, 1) := by decide +kernel
theorem dX4_blocks_126 : decode cX4_blocks 126 = .ok (.invokestatic 109, 3) := by decide +kernel
theorem dX4_blocks_129 : decode cX4_blocks 129 = .ok (.lload 6, 2) := by decide +kernel
theorem dX4_blocks_131 : decode cX4_blocks 131 = .ok (.iload_n 3, 1) := by decide +kernel
theorem dX4_blocks_132 : decode cX4_blocks 132 = .ok (.invokestatic 109, 3) := by decide +kernel
