theorem dX11_multiples_125 : decode cX11_multiples 125 = .ok (.ldiv, 1) := by decide +kernel
theorem dX11_multiples_126 : decode cX11_multiples 126 = .ok (.lstore 9, 2) := by decide +kernel
theorem dX11_multiples_128 : decode cX11_multiples 128 = .ok (.lload 7, 2) := by decide +kernel
theorem dX11_multiples_130 : decode cX11_multiples 130 = .ok (.lconst 0, 1) := by decide +kernel
theorem dX11_multiples_131 : decode cX11_multiples 131 = .ok (.lcmp, 1) := by decide +kernel
theorem dX11_multiples_132 : decode cX11_multiples 132 = .ok (.ifCond .ge 13, 3) := by decide +kernel
theorem dX11_multiples_135 : decode cX11_multiples 135 = .ok (.lload 7, 2) := by decide +kernel
theorem dX11_multiples_137 : decode cX11_multiples 137 = .ok (.lneg, 1) := by decide +kernel
theorem dX11_multiples_138 : decode cX11_multiples 138 = .ok (.lstore 7, 2) := by decide +kernel
theorem dX11_multiples_140 : decode cX11_multiples 140 = .ok (.lload 9, 2) := by decide +kernel
theorem dX11_multiples_142 : decode cX11_multiples 142 = .ok (.lneg, 1) := by decide +kernel
theorem dX11_multiples_143 : decode cX11_multiples 143 = .ok (.lstore 9, 2) := by decide +kernel
theorem dX11_multiples_145 : decode cX11_multiples 145 = .ok (.lload 9, 2) := by decide +kernel
theorem dX11_multiples_147 : decode cX11_multiples 147 = .ok (.lconst 0, 1) := by decide +kernel
theorem dX11_multiples_148 : decode cX11_multiples 148 = .ok (.lcmp, 1) := by decide +kernel
theorem dX11_multiples_149 : decode cX11_multiples 149 = .ok (.ifCond .ge 7, 3) := by decide +kernel
theorem dX11_multiples_152 : decode cX11_multiples 152 = .ok (.ldc2_w 444, 3) := by decide +kernel
theorem dX11_multiples_155 : decode cX11_multiples 155 = .ok (.lreturn, 1) := by decide +kernel
theorem dX11_multiples_156 : decode cX11_multiples 156 = .ok (.iconst 0, 1) := by decide +kernel
theorem dX11_multiples_157 : decode cX11_multiples 157 = .ok (.istore 11, 2) := by decide +kernel
theorem dX11_multiples_159 : decode cX11_multiples 159 = .ok (.iload 11, 2) := by decide +kernel
theorem dX11_multiples_161 : decode cX11_multiples 161 = .ok (.aload_n 0, 1) := by decide +kernel
theorem dX11_multiples_162 : decode cX11_multiples 162 = .ok (.getfield 41, 3) := by decide +kernel
theorem dX11_multiples_165 : decode cX11_multiples 165 = .ok (.iconst 0, 1) := by decide +kernel
theorem dX11_multiples_166 : decode cX11_multiples 166 = .ok (.iaload, 1) := by decide +kernel
theorem dX11_multiples_167 : decode cX11_multiples 167 = .ok (.if_icmp .ge 82, 3) := by decide +kernel
theorem dX11_multiples_170 : decode cX11_multiples 170 = .ok (.aload_n 0, 1) := by decide +kernel
theorem dX11_multiples_171 : decode cX11_multiples 171 = .ok (.getfield 29, 3) := by decide +kernel
theorem dX11_multiples_174 : decode cX11_multiples 174 = .ok (.iload 11, 2) := by decide +kernel
theorem dX11_multiples_176 : decode cX11_multiples 176 = .ok (.iaload, 1) := by decide +kernel
theorem dX11_multiples_177 : decode cX11_multiples 177 = .ok (.aload_n 0, 1) := by decide +kernel
theorem dX11_multiples_178 : decode cX11_multiples 178 = .ok (.getfield 29, 3) := by decide +kernel
theorem dX11_multiples_181 : decode cX11_multiples 181 = .ok (.iload 4, 2) := by decide +kernel
theorem dX11_multiples_183 : decode cX11_multiples 183 = .ok (.iload 11, 2) := by decide +kernel
theorem dX11_multiples_185 : decode cX11_multiples 185 = .ok (.iadd, 1) := by decide +kernel
theorem dX11_multiples_186 : decode cX11_multiples 186 = .ok (.iaload, 1) := by decide +kernel
theorem dX11_multiples_187 : decode cX11_multiples 187 = .ok (.if_icmp .ne 52, 3) := by decide +kernel
theorem dX11_multiples_190 : decode cX11_multiples 190 = .ok (.aload_n 0, 1) := by decide +kernel
theorem dX11_multiples_191 : decode cX11_multiples 191 = .ok (.getfield 32, 3) := by decide +kernel
theorem dX11_multiples_194 : decode cX11_multiples 194 = .ok (.iload 11, 2) := by decide +kernel
theorem dX11_multiples_196 : decode cX11_multiples 196 = .ok (.iaload, 1) := by decide +kernel
theorem dX11_multiples_197 : decode cX11_multiples 197 = .ok (.aload_n 0, 1) := by decide +kernel
theorem dX11_multiples_198 : decode cX11_multiples 198 = .ok (.getfield 32, 3) := by decide +kernel
theorem dX11_multiples_201 : decode cX11_multiples 201 = .ok (.iload 4, 2) := by decide +kernel
theorem dX11_multiples_203 : decode cX11_multiples 203 = .ok (.iload 11, 2) := by decide +kernel
theorem dX11_multiples_205 : decode cX11_multiples 205 = .ok (.iadd, 1) := by decide +kernel
theorem dX11_multiples_206 : decode cX11_multiples 206 = .ok (.iaload, 1) := by decide +kernel
theorem dX11_multiples_207 : decode cX11_multiples 207 = .ok (.if_icmp .ne 32, 3) := by decide +kernel
theorem dX11_multiples_210 : decode cX11_multiples 210 = .ok (.lload 7, 2) := by decide +kernel
theorem dX11_multiples_212 : decode cX11_multiples 212 = .ok (.aload_n 0, 1) := by decide +kernel
theorem dX11_multiples_213 : decode cX11_multiples 213 = .ok (.getfield 35, 3) := by decide +kernel
theorem dX11_multiples_216 : decode cX11_multiples 216 = .ok (.iload 11, 2) := by decide +kernel
theorem dX11_multiples_218 : decode cX11_multiples 218 = .ok (.iaload, 1) := by decide +kernel
theorem dX11_multiples_219 : decode cX11_multiples 219 = .ok (.i2l, 1) := by decide +kernel
theorem dX11_multiples_220 : decode cX11_multiples 220 = .ok (.lmul, 1) := by decide +kernel
theorem dX11_multiples_221 : decode cX11_multiples 221 = .ok (.lload 9, 2) := by decide +kernel
theorem dX11_multiples_223 : decode cX11_multiples 223 = .ok (.aload_n 0, 1) := by decide +kernel
theorem dX11_multiples_224 : decode cX11_multiples 224 = .ok (.getfield 35, 3) := by decide +kernel
theorem dX11_multiples_227 : decode cX11_multiples 227 = .ok (.iload 4, 2) := by decide +kernel
theorem dX11_multiples_229 : decode cX11_multiples 229 = .ok (.iload 11, 2) := by decide +kernel
theorem dX11_multiples_231 : decode cX11_multiples 231 = .ok (.iadd, 1) := by decide +kernel
theorem dX11_multiples_232 : decode cX11_multiples 232 = .ok (.iaload, 1) := by decide +kernel
theorem dX11_multiples_233 : decode cX11_multiples 233 = .ok (.i2l, 1) := by decide +kernel
theorem dX11_multiples_234 : decode cX11_multiples 234 = .ok (.lmul, 1) := by decide +kernel
theorem dX11_multiples_235 : decode cX11_multiples 235 = .ok (.lcmp, 1) := by decide +kernel
theorem dX11_multiples_236 : decode cX11_multiples 236 = .ok (.ifCond .eq 7, 3) := by decide +kernel
theorem dX11_multiples_239 : decode cX11_multiples 239 = .ok (.ldc2_w 444, 3) := by decide +kernel
theorem dX11_multiples_242 : decode cX11_multiples 242 = .ok (.lreturn, 1) := by decide +kernel
theorem dX11_multiples_243 : decode cX11_multiples 243 = .ok (.iinc 11 1, 3) := by decide +kernel
theorem dX11_multiples_246 : decode cX11_multiples 246 = .ok (.goto (-87), 3) := by decide +kernel
theorem dX11_multiples_249 : decode cX11_multiples 249 = .ok (.iload_n 3, 1) := by decide +kernel
theorem dX11_multiples_250 : decode cX11_multiples 250 = .ok (.ifCond .ne 8, 3) := by decide +kernel
theorem dX11_multiples_253 : decode cX11_multiples 253 = .ok (.lload 7, 2) := by decide +kernel
theorem dX11_multiples_255 : decode cX11_multiples 255 = .ok (.goto 32, 3) := by decide +kernel
theorem dX11_multiples_258 : decode cX11_multiples 258 = .ok (.iload_n 3, 1) := by decide +kernel
theorem dX11_multiples_259 : decode cX11_multiples 259 = .ok (.iconst 1, 1) := by decide +kernel
theorem dX11_multiples_260 : decode cX11_multiples 260 = .ok (.if_icmp .ne 8, 3) := by decide +kernel
theorem dX11_multiples_263 : decode cX11_multiples 263 = .ok (.lload 9, 2) := by decide +kernel
theorem dX11_multiples_265 : decode cX11_multiples 265 = .ok (.goto 22, 3) := by decide +kernel
theorem dX11_multiples_268 : decode cX11_multiples 268 = .ok (.lload 7, 2) := by decide +kernel
theorem dX11_multiples_270 : decode cX11_multiples 270 = .ok (.aload_n 0, 1) := by decide +kernel
theorem dX11_multiples_271 : decode cX11_multiples 271 = .ok (.iload_n 1, 1) := by decide +kernel
theorem dX11_multiples_272 : decode cX11_multiples 272 = .ok (.invokevirtual 337, 3) := by decide +kernel
theorem dX11_multiples_275 : decode cX11_multiples 275 = .ok (.i2l, 1) := by decide +kernel
theorem dX11_multiples_276 : decode cX11_multiples 276 = .ok (.lmul, 1) := by decide +kernel
theorem dX11_multiples_277 : decode cX11_multiples 277 = .ok (.lload 9, 2) := by decide +kernel
theorem dX11_multiples_279 : decode cX11_multiples 279 = .ok (.aload_n 0, 1) := by decide +kernel
theorem dX11_multiples_280 : decode cX11_multiples 280 = .ok (.iload_n 2, 1) := by decide +kernel
theorem dX11_multiples_281 : decode cX11_multiples 281 = .ok (.invokevirtual 337, 3) := by decide +kernel
theorem dX11_multiples_284 : decode cX11_multiples 284 = .ok (.i2l, 1) := by decide +kernel
theorem dX11_multiples_285 : decode cX11_multiples 285 = .ok (.lmul, 1) := by decide +kernel
theorem dX11_multiples_286 : decode cX11_multiples 286 = .ok (.lsub, 1) := by decide +kernel
theorem dX11_multiples_287 : decode cX11_multiples 287 = .ok (.lreturn, 1) := by decide +kernel
set_option maxRecDepth 20000 in
theorem ggX11_areSides_X11_isIn : GoodIn wsX11_areSides wsX11_isIn := goodIn_r _ [5] (by decide +kernel) (by decide +kernel)
set_option maxRecDepth 20000 in
theorem gX11_areSides_X11_isIn : GoodIn wsX11_areSides (va_wsS RX11 303 yX11_isIn wsX11_isIn) := goodIn_app (goodIn_of _ (by decide +kernel)) ggX11_areSides_X11_isIn
theorem dX11_areSides_0 : decode cX11_areSides 0 = .ok (.iload_n 0, 1) := by decide +kernel
theorem dX11_areSides_1 : decode cX11_areSides 1 = .ok (.i2l, 1) := by decide +kernel
theorem dX11_areSides_2 : decode cX11_areSides 2 = .ok (.lconst 1, 1) := by decide +kernel
theorem dX11_areSides_3 : decode cX11_areSides 3 = .ok (.ldc2_w 446, 3) := by decide +kernel
theorem dX11_areSides_6 : decode cX11_areSides 6 = .ok (.invokestatic 303, 3) := by decide +kernel
theorem dX11_areSides_9 : decode cX11_areSides 9 = .ok (.ifCond .eq 31, 3) := by decide +kernel
theorem dX11_areSides_12 : decode cX11_areSides 12 = .ok (.iload_n 1, 1) := by decide +kernel
theorem dX11_areSides_13 : decode cX11_areSides 13 = .ok (.i2l, 1) := by decide +kernel
theorem dX11_areSides_14 : decode cX11_areSides 14 = .ok (.lconst 1, 1) := by decide +kernel
theorem dX11_areSides_15 : decode cX11_areSides 15 = .ok (.ldc2_w 446, 3) := by decide +kernel
theorem dX11_areSides_18 : decode cX11_areSides 18 = .ok (.invokestatic 303, 3) := by decide +kernel
theorem dX11_areSides_21 : decode cX11_areSides 21 = .ok (.ifCond .eq 19, 3) := by decide +kernel
theorem dX11_areSides_24 : decode cX11_areSides 24 = .ok (.iload_n 2, 1) := by decide +kernel
theorem dX11_areSides_25 : decode cX11_areSides 25 = .ok (.i2l, 1) := by decide +kernel
theorem dX11_areSides_26 : decode cX11_areSides 26 = .ok (.lconst 1, 1) := by decide +kernel
theorem dX11_areSides_27 : decode cX11_areSides 27 = .ok (.ldc2_w 446, 3) := by decide +kernel
theorem dX11_areSides_30 : decode cX11_areSides 30 = .ok (.invokestatic 303, 3) := by decide +kernel
theorem dX11_areSides_33 : decode cX11_areSides 33 = .ok (.ifCond .eq 7, 3) := by decide +kernel
theorem dX11_areSides_36 : decode cX11_areSides 36 = .ok (.iconst 1, 1) := by decide +kernel
theorem dX11_areSides_37 : decode cX11_areSides 37 = .ok (.goto 4, 3) := by decide +kernel
theorem dX11_areSides_40 : decode cX11_areSides 40 = .ok (.iconst 0, 1) := by decide +kernel
theorem dX11_areSides_41 : decode cX11_areSides 41 = .ok (.ireturn, 1) := by decide +kernel
theorem dX11_meetsBox_0 : decode cX11_meetsBox 0 = .ok (.iconst 0, 1) := by decide +kernel
theorem dX11_meetsBox_1 : decode cX11_meetsBox 1 = .ok (.istore 6, 2) := by decide +kernel
theorem dX11_meetsBox_3 : decode cX11_meetsBox 3 = .ok (.iload 6, 2) := by decide +kernel
theorem dX11_meetsBox_5 : decode cX11_meetsBox 5 = .ok (.aload_n 0, 1) := by decide +kernel
theorem dX11_meetsBox_6 : decode cX11_meetsBox 6 = .ok (.getfield 448, 3) := by decide +kernel
theorem dX11_meetsBox_9 : decode cX11_meetsBox 9 = .ok (.if_icmp .ge 53, 3) := by decide +kernel
theorem dX11_meetsBox_12 : decode cX11_meetsBox 12 = .ok (.aload_n 0, 1) := by decide +kernel
theorem dX11_meetsBox_13 : decode cX11_meetsBox 13 = .ok (.getfield 78, 3) := by decide +kernel
theorem dX11_meetsBox_16 : decode cX11_meetsBox 16 = .ok (.iconst 3, 1) := by decide +kernel
theorem dX11_meetsBox_17 : decode cX11_meetsBox 17 = .ok (.iload 6, 2) := by decide +kernel
theorem dX11_meetsBox_19 : decode cX11_meetsBox 19 = .ok (.imul, 1) := by decide +kernel
theorem dX11_meetsBox_20 : decode cX11_meetsBox 20 = .ok (.iaload, 1) := by decide +kernel
theorem dX11_meetsBox_21 : decode cX11_meetsBox 21 = .ok (.iload_n 1, 1) := by decide +kernel
theorem dX11_meetsBox_22 : decode cX11_meetsBox 22 = .ok (.if_icmp .ne 34, 3) := by decide +kernel
theorem dX11_meetsBox_25 : decode cX11_meetsBox 25 = .ok (.aload_n 0, 1) := by decide +kernel
theorem dX11_meetsBox_26 : decode cX11_meetsBox 26 = .ok (.getfield 78, 3) := by decide +kernel
theorem dX11_meetsBox_29 : decode cX11_meetsBox 29 = .ok (.iconst 3, 1) := by decide +kernel
theorem dX11_meetsBox_30 : decode cX11_meetsBox 30 = .ok (.iload 6, 2) := by decide +kernel
theorem dX11_meetsBox_32 : decode cX11_meetsBox 32 = .ok (.imul, 1) := by decide +kernel
theorem dX11_meetsBox_33 : decode cX11_meetsBox 33 = .ok (.iconst 1, 1) := by decide +kernel
theorem dX11_meetsBox_34 : decode cX11_meetsBox 34 = .ok (.iadd, 1) := by decide +kernel
theorem dX11_meetsBox_35 : decode cX11_meetsBox 35 = .ok (.iaload, 1) := by decide +kernel
theorem dX11_meetsBox_36 : decode cX11_meetsBox 36 = .ok (.iload_n 2, 1) := by decide +kernel
theorem dX11_meetsBox_37 : decode cX11_meetsBox 37 = .ok (.if_icmp .ne 19, 3) := by decide +kernel
theorem dX11_meetsBox_40 : decode cX11_meetsBox 40 = .ok (.aload_n 0, 1) := by decide +kernel
theorem dX11_meetsBox_41 : decode cX11_meetsBox 41 = .ok (.getfield 78, 3) := by decide +kernel
theorem dX11_meetsBox_44 : decode cX11_meetsBox 44 = .ok (.iconst 3, 1) := by decide +kernel
theorem dX11_meetsBox_45 : decode cX11_meetsBox 45 = .ok (.iload 6, 2) := by decide +kernel
theorem dX11_meetsBox_47 : decode cX11_meetsBox 47 = .ok (.imul, 1) := by decide +kernel
theorem dX11_meetsBox_48 : decode cX11_meetsBox 48 = .ok (.iconst 2, 1) := by decide +kernel
theorem dX11_meetsBox_49 : decode cX11_meetsBox 49 = .ok (.iadd, 1) := by decide +kernel
theorem dX11_meetsBox_50 : decode cX11_meetsBox 50 = .ok (.iaload, 1) := by decide +kernel
theorem dX11_meetsBox_51 : decode cX11_meetsBox 51 = .ok (.iload_n 3, 1) := by decide +kernel
theorem dX11_meetsBox_52 : decode cX11_meetsBox 52 = .ok (.if_icmp .ne 4, 3) := by decide +kernel
theorem dX11_meetsBox_55 : decode cX11_meetsBox 55 = .ok (.return_, 1) := by decide +kernel
theorem dX11_meetsBox_56 : decode cX11_meetsBox 56 = .ok (.iinc 6 1, 3) := by decide +kernel
theorem dX11_meetsBox_59 : decode cX11_meetsBox 59 = .ok (.goto (-56), 3) := by decide +kernel
theorem dX11_meetsBox_62 : decode cX11_meetsBox 62 = .ok (.aload_n 0, 1) := by decide +kernel
theorem dX11_meetsBox_63 : decode cX11_meetsBox 63 = .ok (.getfield 78, 3) := by decide +kernel
theorem dX11_meetsBox_66 : decode cX11_meetsBox 66 = .ok (.iconst 3, 1) := by decide +kernel
theorem dX11_meetsBox_67 : decode cX11_meetsBox 67 = .ok (.aload_n 0, 1) := by decide +kernel
theorem dX11_meetsBox_68 : decode cX11_meetsBox 68 = .ok (.getfield 448, 3) := by decide +kernel
theorem dX11_meetsBox_71 : decode cX11_meetsBox 71 = .ok (.imul, 1) := by decide +kernel
theorem dX11_meetsBox_72 : decode cX11_meetsBox 72 = .ok (.iload_n 1, 1) := by decide +kernel
theorem dX11_meetsBox_73 : decode cX11_meetsBox 73 = .ok (.iastore, 1) := by decide +kernel
theorem dX11_meetsBox_74 : decode cX11_meetsBox 74 = .ok (.aload_n 0, 1) := by decide +kernel
theorem dX11_meetsBox_75 : decode cX11_meetsBox 75 = .ok (.getfield 78, 3) := by decide +kernel
theorem dX11_meetsBox_78 : decode cX11_meetsBox 78 = .ok (.iconst 3, 1) := by decide +kernel
theorem dX11_meetsBox_79 : decode cX11_meetsBox 79 = .ok (.aload_n 0, 1) := by decide +kernel
theorem dX11_meetsBox_80 : decode cX11_meetsBox 80 = .ok (.getfield 448, 3) := by decide +kernel
theorem dX11_meetsBox_83 : decode cX11_meetsBox 83 = .ok (.imul, 1) := by decide +kernel
theorem dX11_meetsBox_84 : decode cX11_meetsBox 84 = .ok (.iconst 1, 1) := by decide +kernel
theorem dX11_meetsBox_85 : decode cX11_meetsBox 85 = .ok (.iadd, 1) := by decide +kernel
theorem dX11_meetsBox_86 : decode cX11_meetsBox 86 = .ok (.iload_n 2, 1) := by decide +kernel
theorem dX11_meetsBox_87 : decode cX11_meetsBox 87 = .ok (.iastore, 1) := by decide +kernel
theorem dX11_meetsBox_88 : decode cX11_meetsBox 88 = .ok (.aload_n 0, 1) := by decide +kernel
theorem dX11_meetsBox_89 : decode cX11_meetsBox 89 = .ok (.getfield 78, 3) := by decide +kernel
theorem dX11_meetsBox_92 : decode cX11_meetsBox 92 = .ok (.iconst 3, 1) := by decide +kernel
theorem dX11_meetsBox_93 : decode cX11_meetsBox 93 = .ok (.aload_n 0, 1) := by decide +kernel
theorem dX11_meetsBox_94 : decode cX11_meetsBox 94 = .ok (.getfield 448, 3) := by decide +kernel
theorem dX11_meetsBox_97 : decode cX11_meetsBox 97 = .ok (.imul, 1) := by decide +kernel
theorem dX11_meetsBox_98 : decode cX11_meetsBox 98 = .ok (.iconst 2, 1) := by decide +kernel
theorem dX11_meetsBox_99 : decode cX11_meetsBox 99 = .ok (.iadd, 1) := by decide +kernel
theorem dX11_meetsBox_100 : decode cX11_meetsBox 100 = .ok (.iload_n 3, 1) := by decide +kernel
theorem dX11_meetsBox_101 : decode cX11_meetsBox 101 = .ok (.iastore, 1) := by decide +kernel
theorem dX11_meetsBox_102 : decode cX11_meetsBox 102 = .ok (.aload_n 0, 1) := by decide +kernel
theorem dX11_meetsBox_103 : decode cX11_meetsBox 103 = .ok (.getfield 81, 3) := by decide +kernel
theorem dX11_meetsBox_106 : decode cX11_meetsBox 106 = .ok (.aload_n 0, 1) := by decide +kernel
theorem dX11_meetsBox_107 : decode cX11_meetsBox 107 = .ok (.getfield 448, 3) := by decide +kernel
theorem dX11_meetsBox_110 : decode cX11_meetsBox 110 = .ok (.iload 4, 2) := by decide +kernel
theorem dX11_meetsBox_112 : decode cX11_meetsBox 112 = .ok (.iastore, 1) := by decide +kernel
theorem dX11_meetsBox_113 : decode cX11_meetsBox 113 = .ok (.aload_n 0, 1) := by decide +kernel
theorem dX11_meetsBox_114 : decode cX11_meetsBox 114 = .ok (.getfield 84, 3) := by decide +kernel
theorem dX11_meetsBox_117 : decode cX11_meetsBox 117 = .ok (.aload_n 0, 1) := by decide +kernel
theorem dX11_meetsBox_118 : decode cX11_meetsBox 118 = .ok (.getfield 448, 3) := by decide +kernel
theorem dX11_meetsBox_121 : decode cX11_meetsBox 121 = .ok (.iload 5, 2) := by decide +kernel
theorem dX11_meetsBox_123 : decode cX11_meetsBox 123 = .ok (.iastore, 1) := by decide +kernel
theorem dX11_meetsBox_124 : decode cX11_meetsBox 124 = .ok (.aload_n 0, 1) := by decide +kernel
theorem dX11_meetsBox_125 : decode cX11_meetsBox 125 = .ok (.dup, 1) := by decide +kernel
theorem dX11_meetsBox_126 : decode cX11_meetsBox 126 = .ok (.getfield 448, 3) := by decide +kernel
theorem dX11_meetsBox_129 : decode cX11_meetsBox 129 = .ok (.iconst 1, 1) := by decide +kernel
theorem dX11_meetsBox_130 : decode cX11_meetsBox 130 = .ok (.iadd, 1) := by decide +kernel
theorem dX11_meetsBox_131 : decode cX11_meetsBox 131 = .ok (.putfield 448, 3) := by decide +kernel
theorem dX11_meetsBox_134 : decode cX11_meetsBox 134 = .ok (.return_, 1) := by decide +kernel
theorem dX11_goes__0 : decode cX11_goes_ 0 = .ok (.aload_n 0, 1) := by decide +kernel
theorem dX11_goes__1 : decode cX11_goes_ 1 = .ok (.getfield 97, 3) := by decide +kernel
theorem dX11_goes__4 : decode cX11_goes_ 4 = .ok (.iload_n 1, 1) := by decide +kernel
theorem dX11_goes__5 : decode cX11_goes_ 5 = .ok (.iaload, 1) := by decide +kernel
theorem dX11_goes__6 : decode cX11_goes_ 6 = .ok (.iload_n 3, 1) := by decide +kernel
theorem dX11_goes__7 : decode cX11_goes_ 7 = .ok (.irem, 1) := by decide +kernel
theorem dX11_goes__8 : decode cX11_goes_ 8 = .ok (.ifCond .ne 33, 3) := by decide +kernel
theorem dX11_goes__11 : decode cX11_goes_ 11 = .ok (.aload_n 0, 1) := by decide +kernel
theorem dX11_goes__12 : decode cX11_goes_ 12 = .ok (.getfield 97, 3) := by decide +kernel
theorem dX11_goes__15 : decode cX11_goes_ 15 = .ok (.iload_n 2, 1) := by decide +kernel
theorem dX11_goes__16 : decode cX11_goes_ 16 = .ok (.iaload, 1) := by decide +kernel
theorem dX11_goes__17 : decode cX11_goes_ 17 = .ok (.iload_n 3, 1) := by decide +kernel
theorem dX11_goes__18 : decode cX11_goes_ 18 = .ok (.iconst 1, 1) := by decide +kernel
theorem dX11_goes__19 : decode cX11_goes_ 19 = .ok (.isub, 1) := by decide +kernel
theorem dX11_goes__20 : decode cX11_goes_ 20 = .ok (.irem, 1) := by decide +kernel
theorem dX11_goes__21 : decode cX11_goes_ 21 = .ok (.ifCond .ne 20, 3) := by decide +kernel
theorem dX11_goes__24 : decode cX11_goes_ 24 = .ok (.aload_n 0, 1) := by decide +kernel
theorem dX11_goes__25 : decode cX11_goes_ 25 = .ok (.getfield 97, 3) := by decide +kernel
theorem dX11_goes__28 : decode cX11_goes_ 28 = .ok (.iload_n 2, 1) := by decide +kernel
theorem dX11_goes__29 : decode cX11_goes_ 29 = .ok (.iaload, 1) := by decide +kernel
theorem dX11_goes__30 : decode cX11_goes_ 30 = .ok (.iload_n 3, 1) := by decide +kernel
theorem dX11_goes__31 : decode cX11_goes_ 31 = .ok (.iconst 1, 1) := by decide +kernel
theorem dX11_goes__32 : decode cX11_goes_ 32 = .ok (.isub, 1) := by decide +kernel
theorem dX11_goes__33 : decode cX11_goes_ 33 = .ok (.idiv, 1) := by decide +kernel
theorem dX11_goes__34 : decode cX11_goes_ 34 = .ok (.iload_n 3, 1) := by decide +kernel
theorem dX11_goes__35 : decode cX11_goes_ 35 = .ok (.imul, 1) := by decide +kernel
theorem dX11_goes__36 : decode cX11_goes_ 36 = .ok (.bipush 24, 2) := by decide +kernel
theorem dX11_goes__38 : decode cX11_goes_ 38 = .ok (.if_icmp .le 5, 3) := by decide +kernel
theorem dX11_goes__41 : decode cX11_goes_ 41 = .ok (.iconst 0, 1) := by decide +kernel
theorem dX11_goes__42 : decode cX11_goes_ 42 = .ok (.ireturn, 1) := by decide +kernel
theorem dX11_goes__43 : decode cX11_goes_ 43 = .ok (.aload_n 0, 1) := by decide +kernel
theorem dX11_goes__44 : decode cX11_goes_ 44 = .ok (.getfield 97, 3) := by decide +kernel
theorem dX11_goes__47 : decode cX11_goes_ 47 = .ok (.iload_n 1, 1) := by decide +kernel
theorem dX11_goes__48 : decode cX11_goes_ 48 = .ok (.aload_n 0, 1) := by decide +kernel
theorem dX11_goes__49 : decode cX11_goes_ 49 = .ok (.getfield 97, 3) := by decide +kernel
theorem dX11_goes__52 : decode cX11_goes_ 52 = .ok (.iload_n 1, 1) := by decide +kernel
theorem dX11_goes__53 : decode cX11_goes_ 53 = .ok (.iaload, 1) := by decide +kernel
theorem dX11_goes__54 : decode cX11_goes_ 54 = .ok (.iload_n 3, 1) := by decide +kernel
theorem dX11_goes__55 : decode cX11_goes_ 55 = .ok (.idiv, 1) := by decide +kernel
theorem dX11_goes__56 : decode cX11_goes_ 56 = .ok (.iload_n 3, 1) := by decide +kernel
theorem dX11_goes__57 : decode cX11_goes_ 57 = .ok (.iconst 1, 1) := by decide +kernel
theorem dX11_goes__58 : decode cX11_goes_ 58 = .ok (.isub, 1) := by decide +kernel
theorem dX11_goes__59 : decode cX11_goes_ 59 = .ok (.imul, 1) := by decide +kernel
theorem dX11_goes__60 : decode cX11_goes_ 60 = .ok (.iastore, 1) := by decide +kernel
theorem dX11_goes__61 : decode cX11_goes_ 61 = .ok (.aload_n 0, 1) := by decide +kernel
theorem dX11_goes__62 : decode cX11_goes_ 62 = .ok (.getfield 97, 3) := by decide +kernel
theorem dX11_goes__65 : decode cX11_goes_ 65 = .ok (.iload_n 2, 1) := by decide +kernel
theorem dX11_goes__66 : decode cX11_goes_ 66 = .ok (.aload_n 0, 1) := by decide +kernel
theorem dX11_goes__67 : decode cX11_goes_ 67 = .ok (.getfield 97, 3) := by decide +kernel
theorem dX11_goes__70 : decode cX11_goes_ 70 = .ok (.iload_n 2, 1) := by decide +kernel
theorem dX11_goes__71 : decode cX11_goes_ 71 = .ok (.iaload, 1) := by decide +kernel
theorem dX11_goes__72 : decode cX11_goes_ 72 = .ok (.iload_n 3, 1) := by decide +kernel
theorem dX11_goes__73 : decode cX11_goes_ 73 = .ok (.iconst 1, 1) := by decide +kernel
theorem dX11_goes__74 : decode cX11_goes_ 74 = .ok (.isub, 1) := by decide +kernel
theorem dX11_goes__75 : decode cX11_goes_ 75 = .ok (.idiv, 1) := by decide +kernel
theorem dX11_goes__76 : decode cX11_goes_ 76 = .ok (.iload_n 3, 1) := by decide +kernel
theorem dX11_goes__77 : decode cX11_goes_ 77 = .ok (.imul, 1) := by decide +kernel
theorem dX11_goes__78 : decode cX11_goes_ 78 = .ok (.iastore, 1) := by decide +kernel
theorem dX11_goes__79 : decode cX11_goes_ 79 = .ok (.iconst 1, 1) := by decide +kernel
theorem dX11_goes__80 : decode cX11_goes_ 80 = .ok (.ireturn, 1) := by decide +kernel
set_option maxRecDepth 20000 in
theorem ggX11_goesFrom_X11_goes_ : GoodIn wsX11_goesFrom wsX11_goes_ := goodIn_r _ [7, 1, 15, 16, 17, 18, 19, 20, 21, 22, 23, 24, 25, 26, 27, 28, 29, 30, 31, 32, 33, 34, 35, 36, 37, 38, 39, 40, 41, 42, 43, 44, 45, 46, 47, 48, 49, 50, 51, 52, 53, 54, 55, 56, 57, 58, 59, 60, 61, 62, 63, 64, 65, 66] (by decide +kernel) (by decide +kernel)
set_option maxRecDepth 20000 in
theorem gX11_goesFrom_X11_goes_ : GoodIn wsX11_goesFrom (wsV RX11 451 RX11 yX11_goes_ wsX11_goes_) := goodIn_app (goodIn_of _ (by decide +kernel)) ggX11_goesFrom_X11_goes_
set_option maxRecDepth 20000 in
theorem ggX11_goesFrom_X11_meetsBox : GoodIn wsX11_goesFrom wsX11_meetsBox := goodIn_r _ [11, 12, 2, 13, 14, 15, 16, 17, 18, 19, 20, 21, 22, 23, 24, 25, 26, 27, 28, 29, 30, 31, 32, 33, 34, 35, 36, 37, 38, 39, 40, 41, 42, 43, 44, 45, 46, 47, 48, 49, 50, 51, 52, 53, 54, 55, 56, 57, 58, 59, 60, 61, 62, 63, 64, 65, 66] (by decide +kernel) (by decide +kernel)
set_option maxRecDepth 20000 in
theorem gX11_goesFrom_X11_meetsBox : GoodIn wsX11_goesFrom (wsV RX11 454 RX11 yX11_meetsBox wsX11_meetsBox) := goodIn_app (goodIn_of _ (by decide +kernel)) ggX11_goesFrom_X11_meetsBox
theorem dX11_goesFrom_0 : decode cX11_goesFrom 0 = .ok (.iconst 0, 1) := by decide +kernel
theorem dX11_goesFrom_1 : decode cX11_goesFrom 1 = .ok (.istore_n 2, 1) := by decide +kernel
theorem dX11_goesFrom_2 : decode cX11_goesFrom 2 = .ok (.iload_n 2, 1) := by decide +kernel
theorem dX11_goesFrom_3 : decode cX11_goesFrom 3 = .ok (.iconst 3, 1) := by decide +kernel
theorem dX11_goesFrom_4 : decode cX11_goesFrom 4 = .ok (.if_icmp .ge 124, 3) := by decide +kernel
theorem dX11_goesFrom_7 : decode cX11_goesFrom 7 = .ok (.iconst 0, 1) := by decide +kernel
theorem dX11_goesFrom_8 : decode cX11_goesFrom 8 = .ok (.istore_n 3, 1) := by decide +kernel
theorem dX11_goesFrom_9 : decode cX11_goesFrom 9 = .ok (.iload_n 3, 1) := by decide +kernel
theorem dX11_goesFrom_10 : decode cX11_goesFrom 10 = .ok (.iconst 3, 1) := by decide +kernel
theorem dX11_goesFrom_11 : decode cX11_goesFrom 11 = .ok (.if_icmp .ge 111, 3) := by decide +kernel
theorem dX11_goesFrom_14 : decode cX11_goesFrom 14 = .ok (.iconst 2, 1) := by decide +kernel
theorem dX11_goesFrom_15 : decode cX11_goesFrom 15 = .ok (.istore 4, 2) := by decide +kernel
theorem dX11_goesFrom_17 : decode cX11_goesFrom 17 = .ok (.iload 4, 2) := by decide +kernel
theorem dX11_goesFrom_19 : decode cX11_goesFrom 19 = .ok (.bipush 24, 2) := by decide +kernel
theorem dX11_goesFrom_21 : decode cX11_goesFrom 21 = .ok (.if_icmp .gt 95, 3) := by decide +kernel
theorem dX11_goesFrom_24 : decode cX11_goesFrom 24 = .ok (.iload_n 2, 1) := by decide +kernel
theorem dX11_goesFrom_25 : decode cX11_goesFrom 25 = .ok (.iload_n 3, 1) := by decide +kernel
theorem dX11_goesFrom_26 : decode cX11_goesFrom 26 = .ok (.if_icmp .eq 90, 3) := by decide +kernel
theorem dX11_goesFrom_29 : decode cX11_goesFrom 29 = .ok (.iconst 0, 1) := by decide +kernel
theorem dX11_goesFrom_30 : decode cX11_goesFrom 30 = .ok (.istore 5, 2) := by decide +kernel
theorem dX11_goesFrom_32 : decode cX11_goesFrom 32 = .ok (.iload 5, 2) := by decide +kernel
theorem dX11_goesFrom_34 : decode cX11_goesFrom 34 = .ok (.iconst 3, 1) := by decide +kernel
theorem dX11_goesFrom_35 : decode cX11_goesFrom 35 = .ok (.if_icmp .ge 27, 3) := by decide +kernel
theorem dX11_goesFrom_38 : decode cX11_goesFrom 38 = .ok (.aload_n 0, 1) := by decide +kernel
theorem dX11_goesFrom_39 : decode cX11_goesFrom 39 = .ok (.getfield 97, 3) := by decide +kernel
theorem dX11_goesFrom_42 : decode cX11_goesFrom 42 = .ok (.iload 5, 2) := by decide +kernel
theorem dX11_goesFrom_44 : decode cX11_goesFrom 44 = .ok (.aload_n 0, 1) := by decide +kernel
theorem dX11_goesFrom_45 : decode cX11_goesFrom 45 = .ok (.getfield 78, 3) := by decide +kernel
theorem dX11_goesFrom_48 : decode cX11_goesFrom 48 = .ok (.iconst 3, 1) := by decide +kernel
theorem dX11_goesFrom_49 : decode cX11_goesFrom 49 = .ok (.iload_n 1, 1) := by decide +kernel
theorem dX11_goesFrom_50 : decode cX11_goesFrom 50 = .ok (.imul, 1) := by decide +kernel
theorem dX11_goesFrom_51 : decode cX11_goesFrom 51 = .ok (.iload 5, 2) := by decide +kernel
theorem dX11_goesFrom_53 : decode cX11_goesFrom 53 = .ok (.iadd, 1) := by decide +kernel
theorem dX11_goesFrom_54 : decode cX11_goesFrom 54 = .ok (.iaload, 1) := by decide +kernel
theorem dX11_goesFrom_55 : decode cX11_goesFrom 55 = .ok (.iastore, 1) := by decide +kernel
theorem dX11_goesFrom_56 : decode cX11_goesFrom 56 = .ok (.iinc 5 1, 3) := by decide +kernel
theorem dX11_goesFrom_59 : decode cX11_goesFrom 59 = .ok (.goto (-27), 3) := by decide +kernel
theorem dX11_goesFrom_62 : decode cX11_goesFrom 62 = .ok (.aload_n 0, 1) := by decide +kernel
theorem dX11_goesFrom_63 : decode cX11_goesFrom 63 = .ok (.iload_n 2, 1) := by decide +kernel
theorem dX11_goesFrom_64 : decode cX11_goesFrom 64 = .ok (.iload_n 3, 1) := by decide +kernel
theorem dX11_goesFrom_65 : decode cX11_goesFrom 65 = .ok (.iload 4, 2) := by decide +kernel
theorem dX11_goesFrom_67 : decode cX11_goesFrom 67 = .ok (.invokevirtual 451, 3) := by decide +kernel
theorem dX11_goesFrom_70 : decode cX11_goesFrom 70 = .ok (.ifCond .eq 40, 3) := by decide +kernel
theorem dX11_goesFrom_73 : decode cX11_goesFrom 73 = .ok (.aload_n 0, 1) := by decide +kernel
theorem dX11_goesFrom_74 : decode cX11_goesFrom 74 = .ok (.aload_n 0, 1) := by decide +kernel
theorem dX11_goesFrom_75 : decode cX11_goesFrom 75 = .ok (.getfield 97, 3) := by decide +kernel
theorem dX11_goesFrom_78 : decode cX11_goesFrom 78 = .ok (.iconst 0, 1) := by decide +kernel
theorem dX11_goesFrom_79 : decode cX11_goesFrom 79 = .ok (.iaload, 1) := by decide +kernel
theorem dX11_goesFrom_80 : decode cX11_goesFrom 80 = .ok (.aload_n 0, 1) := by decide +kernel
theorem dX11_goesFrom_81 : decode cX11_goesFrom 81 = .ok (.getfield 97, 3) := by decide +kernel
theorem dX11_goesFrom_84 : decode cX11_goesFrom 84 = .ok (.iconst 1, 1) := by decide +kernel
theorem dX11_goesFrom_85 : decode cX11_goesFrom 85 = .ok (.iaload, 1) := by decide +kernel
theorem dX11_goesFrom_86 : decode cX11_goesFrom 86 = .ok (.aload_n 0, 1) := by decide +kernel
theorem dX11_goesFrom_87 : decode cX11_goesFrom 87 = .ok (.getfield 97, 3) := by decide +kernel
theorem dX11_goesFrom_90 : decode cX11_goesFrom 90 = .ok (.iconst 2, 1) := by decide +kernel
theorem dX11_goesFrom_91 : decode cX11_goesFrom 91 = .ok (.iaload, 1) := by decide +kernel
theorem dX11_goesFrom_92 : decode cX11_goesFrom 92 = .ok (.iload_n 1, 1) := by decide +kernel
theorem dX11_goesFrom_93 : decode cX11_goesFrom 93 = .ok (.bipush 72, 2) := by decide +kernel
theorem dX11_goesFrom_95 : decode cX11_goesFrom 95 = .ok (.iload_n 2, 1) := by decide +kernel
theorem dX11_goesFrom_96 : decode cX11_goesFrom 96 = .ok (.imul, 1) := by decide +kernel
theorem dX11_goesFrom_97 : decode cX11_goesFrom 97 = .ok (.bipush 24, 2) := by decide +kernel
theorem dX11_goesFrom_99 : decode cX11_goesFrom 99 = .ok (.iload_n 3, 1) := by decide +kernel
theorem dX11_goesFrom_100 : decode cX11_goesFrom 100 = .ok (.imul, 1) := by decide +kernel
theorem dX11_goesFrom_101 : decode cX11_goesFrom 101 = .ok (.iadd, 1) := by decide +kernel
theorem dX11_goesFrom_102 : decode cX11_goesFrom 102 = .ok (.iload 4, 2) := by decide +kernel
theorem dX11_goesFrom_104 : decode cX11_goesFrom 104 = .ok (.iadd, 1) := by decide +kernel
theorem dX11_goesFrom_105 : decode cX11_goesFrom 105 = .ok (.iconst 1, 1) := by decide +kernel
theorem dX11_goesFrom_106 : decode cX11_goesFrom 106 = .ok (.isub, 1) := by decide +kernel
theorem dX11_goesFrom_107 : decode cX11_goesFrom 107 = .ok (.invokevirtual 454, 3) := by decide +kernel
theorem dX11_goesFrom_110 : decode cX11_goesFrom 110 = .ok (.iinc 4 1, 3) := by decide +kernel
theorem dX11_goesFrom_113 : decode cX11_goesFrom 113 = .ok (.goto (-96), 3) := by decide +kernel
theorem dX11_goesFrom_116 : decode cX11_goesFrom 116 = .ok (.iinc 3 1, 3) := by decide +kernel
theorem dX11_goesFrom_119 : decode cX11_goesFrom 119 = .ok (.goto (-110), 3) := by decide +kernel
theorem dX11_goesFrom_122 : decode cX11_goesFrom 122 = .ok (.iinc 2 1, 3) := by decide +kernel
theorem dX11_goesFrom_125 : decode cX11_goesFrom 125 = .ok (.goto (-123), 3) := by decide +kernel
theorem dX11_goesFrom_128 : decode cX11_goesFrom 128 = .ok (.return_, 1) := by decide +kernel
set_option maxRecDepth 20000 in
theorem ggX11_plan_X11_areSides : GoodIn wsX11_plan wsX11_areSides := goodIn_r _ [12, 13, 14, 15, 11, 16] (by decide +kernel) (by decide +kernel)
set_option maxRecDepth 20000 in
theorem gX11_plan_X11_areSides : GoodIn wsX11_plan (va_wsS RX11 457 yX11_areSides wsX11_areSides) := goodIn_app (goodIn_of _ (by decide +kernel)) ggX11_plan_X11_areSides
set_option maxRecDepth 20000 in
theorem ggX11_plan_X11_meetsBox : GoodIn wsX11_plan wsX11_meetsBox := goodIn_r _ [20, 2, 3, 5, 8, 30, 31, 32, 33, 34, 35, 36, 37, 38, 39, 40, 41, 42, 43, 44, 45, 46, 47, 48, 49, 50, 51, 52, 53, 54, 55, 56, 57, 58, 59, 60, 61, 62, 63, 64, 65, 66, 67, 68, 69, 70, 71, 72, 73, 74, 75, 76, 77, 78, 79, 80, 81] (by decide +kernel) (by decide +kernel)
set_option maxRecDepth 20000 in
theorem gX11_plan_X11_meetsBox : GoodIn wsX11_plan (wsV RX11 454 RX11 yX11_meetsBox wsX11_meetsBox) := goodIn_app (goodIn_of _ (by decide +kernel)) ggX11_plan_X11_meetsBox
set_option maxRecDepth 20000 in
theorem ggX11_plan_X11_goesFrom : GoodIn wsX11_plan wsX11_goesFrom := goodIn_r _ [24, 25, 3, 26, 27, 28, 11, 29, 17, 18, 19, 20, 2, 5, 8, 30, 31, 32, 33, 34, 35, 36, 37, 38, 39, 40, 41, 42, 43, 44, 45, 46, 47, 48, 49, 50, 51, 52, 53, 54, 55, 56, 57, 58, 59, 60, 61, 62, 63, 64, 65, 66, 67, 68, 69, 70, 71, 72, 73, 74, 75, 76, 77, 78, 79, 80, 81] (by decide +kernel) (by decide +kernel)
set_option maxRecDepth 20000 in
theorem gX11_plan_X11_goesFrom : GoodIn wsX11_plan (wsV RX11 460 RX11 yX11_goesFrom wsX11_goesFrom) := goodIn_app (goodIn_of _ (by decide +kernel)) ggX11_plan_X11_goesFrom
theorem dX11_plan_0 : decode cX11_plan 0 = .ok (.aload_n 0, 1) := by decide +kernel
theorem dX11_plan_1 : decode cX11_plan 1 = .ok (.iconst 0, 1) := by decide +kernel
theorem dX11_plan_2 : decode cX11_plan 2 = .ok (.putfield 106, 3) := by decide +kernel
theorem dX11_plan_5 : decode cX11_plan 5 = .ok (.iload_n 1, 1) := by decide +kernel
theorem dX11_plan_6 : decode cX11_plan 6 = .ok (.iload_n 2, 1) := by decide +kernel
theorem dX11_plan_7 : decode cX11_plan 7 = .ok (.iload_n 3, 1) := by decide +kernel
theorem dX11_plan_8 : decode cX11_plan 8 = .ok (.invokestatic 457, 3) := by decide +kernel
theorem dX11_plan_11 : decode cX11_plan 11 = .ok (.ifCond .eq 26, 3) := by decide +kernel
theorem dX11_plan_14 : decode cX11_plan 14 = .ok (.iload 4, 2) := by decide +kernel
theorem dX11_plan_16 : decode cX11_plan 16 = .ok (.iload 5, 2) := by decide +kernel
theorem dX11_plan_18 : decode cX11_plan 18 = .ok (.iload 6, 2) := by decide +kernel
theorem dX11_plan_20 : decode cX11_plan 20 = .ok (.invokestatic 457, 3) := by decide +kernel
theorem dX11_plan_23 : decode cX11_plan 23 = .ok (.ifCond .eq 14, 3) := by decide +kernel
theorem dX11_plan_26 : decode cX11_plan 26 = .ok (.iload_n 1, 1) := by decide +kernel
theorem dX11_plan_27 : decode cX11_plan 27 = .ok (.iload_n 2, 1) := by decide +kernel
theorem dX11_plan_28 : decode cX11_plan 28 = .ok (.imul, 1) := by decide +kernel
theorem dX11_plan_29 : decode cX11_plan 29 = .ok (.iload_n 3, 1) := by decide +kernel
theorem dX11_plan_30 : decode cX11_plan 30 = .ok (.imul, 1) := by decide +kernel
theorem dX11_plan_31 : decode cX11_plan 31 = .ok (.sipush 1728, 3) := by decide +kernel
theorem dX11_plan_34 : decode cX11_plan 34 = .ok (.if_icmp .le 6, 3) := by decide +kernel
theorem dX11_plan_37 : decode cX11_plan 37 = .ok (.bipush (-2), 2) := by decide +kernel
theorem dX11_plan_39 : decode cX11_plan 39 = .ok (.ireturn, 1) := by decide +kernel
theorem dX11_plan_40 : decode cX11_plan 40 = .ok (.iload_n 1, 1) := by decide +kernel
theorem dX11_plan_41 : decode cX11_plan 41 = .ok (.iload_n 2, 1) := by decide +kernel
theorem dX11_plan_42 : decode cX11_plan 42 = .ok (.imul, 1) := by decide +kernel
theorem dX11_plan_43 : decode cX11_plan 43 = .ok (.iload_n 3, 1) := by decide +kernel
theorem dX11_plan_44 : decode cX11_plan 44 = .ok (.imul, 1) := by decide +kernel
theorem dX11_plan_45 : decode cX11_plan 45 = .ok (.iload 4, 2) := by decide +kernel
theorem dX11_plan_47 : decode cX11_plan 47 = .ok (.iload 5, 2) := by decide +kernel
theorem dX11_plan_49 : decode cX11_plan 49 = .ok (.imul, 1) := by decide +kernel
theorem dX11_plan_50 : decode cX11_plan 50 = .ok (.iload 6, 2) := by decide +kernel
theorem dX11_plan_52 : decode cX11_plan 52 = .ok (.imul, 1) := by decide +kernel
theorem dX11_plan_53 : decode cX11_plan 53 = .ok (.if_icmp .eq 6, 3) := by decide +kernel
theorem dX11_plan_56 : decode cX11_plan 56 = .ok (.bipush (-3), 2) := by decide +kernel
theorem dX11_plan_58 : decode cX11_plan 58 = .ok (.ireturn, 1) := by decide +kernel
theorem dX11_plan_59 : decode cX11_plan 59 = .ok (.aload_n 0, 1) := by decide +kernel
theorem dX11_plan_60 : decode cX11_plan 60 = .ok (.iconst 0, 1) := by decide +kernel
theorem dX11_plan_61 : decode cX11_plan 61 = .ok (.putfield 448, 3) := by decide +kernel
theorem dX11_plan_64 : decode cX11_plan 64 = .ok (.aload_n 0, 1) := by decide +kernel
theorem dX11_plan_65 : decode cX11_plan 65 = .ok (.iload_n 1, 1) := by decide +kernel
theorem dX11_plan_66 : decode cX11_plan 66 = .ok (.iload_n 2, 1) := by decide +kernel
theorem dX11_plan_67 : decode cX11_plan 67 = .ok (.iload_n 3, 1) := by decide +kernel
theorem dX11_plan_68 : decode cX11_plan 68 = .ok (.iconst (-1), 1) := by decide +kernel
theorem dX11_plan_69 : decode cX11_plan 69 = .ok (.iconst 0, 1) := by decide +kernel
theorem dX11_plan_70 : decode cX11_plan 70 = .ok (.invokevirtual 454, 3) := by decide +kernel
theorem dX11_plan_73 : decode cX11_plan 73 = .ok (.iconst 0, 1) := by decide +kernel
theorem dX11_plan_74 : decode cX11_plan 74 = .ok (.istore 7, 2) := by decide +kernel
theorem dX11_plan_76 : decode cX11_plan 76 = .ok (.iload 7, 2) := by decide +kernel
theorem dX11_plan_78 : decode cX11_plan 78 = .ok (.aload_n 0, 1) := by decide +kernel
theorem dX11_plan_79 : decode cX11_plan 79 = .ok (.getfield 448, 3) := by decide +kernel
theorem dX11_plan_82 : decode cX11_plan 82 = .ok (.if_icmp .ge 61, 3) := by decide +kernel
theorem dX11_plan_85 : decode cX11_plan 85 = .ok (.aload_n 0, 1) := by decide +kernel
theorem dX11_plan_86 : decode cX11_plan 86 = .ok (.getfield 78, 3) := by decide +kernel
theorem dX11_plan_89 : decode cX11_plan 89 = .ok (.iconst 3, 1) := by decide +kernel
theorem dX11_plan_90 : decode cX11_plan 90 = .ok (.iload 7, 2) := by decide +kernel
theorem dX11_plan_92 : decode cX11_plan 92 = .ok (.imul, 1) := by decide +kernel
theorem dX11_plan_93 : decode cX11_plan 93 = .ok (.iaload, 1) := by decide +kernel
theorem dX11_plan_94 : decode cX11_plan 94 = .ok (.iload 4, 2) := by decide +kernel
theorem dX11_plan_96 : decode cX11_plan 96 = .ok (.if_icmp .ne 35, 3) := by decide +kernel
theorem dX11_plan_99 : decode cX11_plan 99 = .ok (.aload_n 0, 1) := by decide +kernel
theorem dX11_plan_100 : decode cX11_plan 100 = .ok (.getfield 78, 3) := by decide +kernel
theorem dX11_plan_103 : decode cX11_plan 103 = .ok (.iconst 3, 1) := by decide +kernel
theorem dX11_plan_104 : decode cX11_plan 104 = .ok (.iload 7, 2) := by decide +kernel
theorem dX11_plan_106 : decode cX11_plan 106 = .ok (.imul, 1) := by decide +kernel
theorem dX11_plan_107 : decode cX11_plan 107 = .ok (.iconst 1, 1) := by decide +kernel
theorem dX11_plan_108 : decode cX11_plan 108 = .ok (.iadd, 1) := by decide +kernel
theorem dX11_plan_109 : decode cX11_plan 109 = .ok (.iaload, 1) := by decide +kernel
theorem dX11_plan_110 : decode cX11_plan 110 = .ok (.iload 5, 2) := by decide +kernel
theorem dX11_plan_112 : decode cX11_plan 112 = .ok (.if_icmp .ne 19, 3) := by decide +kernel
theorem dX11_plan_115 : decode cX11_plan 115 = .ok (.aload_n 0, 1) := by decide +kernel
theorem dX11_plan_116 : decode cX11_plan 116 = .ok (.getfield 78, 3) := by decide +kernel
theorem dX11_plan_119 : decode cX11_plan 119 = .ok (.iconst 3, 1) := by decide +kernel
theorem dX11_plan_120 : decode cX11_plan 120 = .ok (.iload 7, 2) := by decide +kernel
theorem dX11_plan_122 : decode cX11_plan 122 = .ok (.imul, 1) := by decide +kernel
theorem dX11_plan_123 : decode cX11_plan 123 = .ok (.iconst 2, 1) := by decide +kernel
theorem dX11_plan_124 : decode cX11_plan 124 = .ok (.iadd, 1) := by decide +kernel
theorem dX11_plan_125 : decode cX11_plan 125 = .ok (.iaload, 1) := by decide +kernel
theorem dX11_plan_126 : decode cX11_plan 126 = .ok (.iload 6, 2) := by decide +kernel
theorem dX11_plan_128 : decode cX11_plan 128 = .ok (.if_icmp .eq 15, 3) := by decide +kernel
theorem dX11_plan_131 : decode cX11_plan 131 = .ok (.aload_n 0, 1) := by decide +kernel
theorem dX11_plan_132 : decode cX11_plan 132 = .ok (.iload 7, 2) := by decide +kernel
theorem dX11_plan_134 : decode cX11_plan 134 = .ok (.invokevirtual 460, 3) := by decide +kernel
theorem dX11_plan_137 : decode cX11_plan 137 = .ok (.iinc 7 1, 3) := by decide +kernel
theorem dX11_plan_140 : decode cX11_plan 140 = .ok (.goto (-64), 3) := by decide +kernel
theorem dX11_plan_143 : decode cX11_plan 143 = .ok (.iload 7, 2) := by decide +kernel
theorem dX11_plan_145 : decode cX11_plan 145 = .ok (.aload_n 0, 1) := by decide +kernel
theorem dX11_plan_146 : decode cX11_plan 146 = .ok (.getfield 448, 3) := by decide +kernel
theorem dX11_plan_149 : decode cX11_plan 149 = .ok (.if_icmp .ne 5, 3) := by decide +kernel
theorem dX11_plan_152 : decode cX11_plan 152 = .ok (.iconst (-1), 1) := by decide +kernel
theorem dX11_plan_153 : decode cX11_plan 153 = .ok (.ireturn, 1) := by decide +kernel
theorem dX11_plan_154 : decode cX11_plan 154 = .ok (.aload_n 0, 1) := by decide +kernel
theorem dX11_plan_155 : decode cX11_plan 155 = .ok (.iconst 0, 1) := by decide +kernel
theorem dX11_plan_156 : decode cX11_plan 156 = .ok (.putfield 93, 3) := by decide +kernel
theorem dX11_plan_159 : decode cX11_plan 159 = .ok (.iload 7, 2) := by decide +kernel
theorem dX11_plan_161 : decode cX11_plan 161 = .ok (.istore 8, 2) := by decide +kernel
theorem dX11_plan_163 : decode cX11_plan 163 = .ok (.aload_n 0, 1) := by decide +kernel
theorem dX11_plan_164 : decode cX11_plan 164 = .ok (.getfield 81, 3) := by decide +kernel
theorem dX11_plan_167 : decode cX11_plan 167 = .ok (.iload 8, 2) := by decide +kernel
theorem dX11_plan_169 : decode cX11_plan 169 = .ok (.iaload, 1) := by decide +kernel
theorem dX11_plan_170 : decode cX11_plan 170 = .ok (.iconst (-1), 1) := by decide +kernel
theorem dX11_plan_171 : decode cX11_plan 171 = .ok (.if_icmp .eq 25, 3) := by decide +kernel
theorem dX11_plan_174 : decode cX11_plan 174 = .ok (.aload_n 0, 1) := by decide +kernel
theorem dX11_plan_175 : decode cX11_plan 175 = .ok (.dup, 1) := by decide +kernel
theorem dX11_plan_176 : decode cX11_plan 176 = .ok (.getfield 93, 3) := by decide +kernel
theorem dX11_plan_179 : decode cX11_plan 179 = .ok (.iconst 1, 1) := by decide +kernel
theorem dX11_plan_180 : decode cX11_plan 180 = .ok (.iadd, 1) := by decide +kernel
theorem dX11_plan_181 : decode cX11_plan 181 = .ok (.putfield 93, 3) := by decide +kernel
theorem dX11_plan_184 : decode cX11_plan 184 = .ok (.aload_n 0, 1) := by decide +kernel
theorem dX11_plan_185 : decode cX11_plan 185 = .ok (.getfield 81, 3) := by decide +kernel
theorem dX11_plan_188 : decode cX11_plan 188 = .ok (.iload 8, 2) := by decide +kernel
theorem dX11_plan_190 : decode cX11_plan 190 = .ok (.iaload, 1) := by decide +kernel
theorem dX11_plan_191 : decode cX11_plan 191 = .ok (.istore 8, 2) := by decide +kernel
theorem dX11_plan_193 : decode cX11_plan 193 = .ok (.goto (-30), 3) := by decide +kernel
theorem dX11_plan_196 : decode cX11_plan 196 = .ok (.aload_n 0, 1) := by decide +kernel
theorem dX11_plan_197 : decode cX11_plan 197 = .ok (.getfield 93, 3) := by decide +kernel
theorem dX11_plan_200 : decode cX11_plan 200 = .ok (.istore 8, 2) := by decide +kernel
theorem dX11_plan_202 : decode cX11_plan 202 = .ok (.iload 7, 2) := by decide +kernel
theorem dX11_plan_204 : decode cX11_plan 204 = .ok (.istore 9, 2) := by decide +kernel
theorem dX11_plan_206 : decode cX11_plan 206 = .ok (.iload 9, 2) := by decide +kernel
theorem dX11_plan_208 : decode cX11_plan 208 = .ok (.iconst (-1), 1) := by decide +kernel
theorem dX11_plan_209 : decode cX11_plan 209 = .ok (.if_icmp .eq 76, 3) := by decide +kernel
theorem dX11_plan_212 : decode cX11_plan 212 = .ok (.iconst 0, 1) := by decide +kernel
theorem dX11_plan_213 : decode cX11_plan 213 = .ok (.istore 10, 2) := by decide +kernel
theorem dX11_plan_215 : decode cX11_plan 215 = .ok (.iload 10, 2) := by decide +kernel
theorem dX11_plan_217 : decode cX11_plan 217 = .ok (.iconst 3, 1) := by decide +kernel
theorem dX11_plan_218 : decode cX11_plan 218 = .ok (.if_icmp .ge 33, 3) := by decide +kernel
theorem dX11_plan_221 : decode cX11_plan 221 = .ok (.aload_n 0, 1) := by decide +kernel
theorem dX11_plan_222 : decode cX11_plan 222 = .ok (.getfield 90, 3) := by decide +kernel
theorem dX11_plan_225 : decode cX11_plan 225 = .ok (.iconst 3, 1) := by decide +kernel
theorem dX11_plan_226 : decode cX11_plan 226 = .ok (.iload 8, 2) := by decide +kernel
theorem dX11_plan_228 : decode cX11_plan 228 = .ok (.imul, 1) := by decide +kernel
theorem dX11_plan_229 : decode cX11_plan 229 = .ok (.iload 10, 2) := by decide +kernel
theorem dX11_plan_231 : decode cX11_plan 231 = .ok (.iadd, 1) := by decide +kernel
theorem dX11_plan_232 : decode cX11_plan 232 = .ok (.aload_n 0, 1) := by decide +kernel
theorem dX11_plan_233 : decode cX11_plan 233 = .ok (.getfield 78, 3) := by decide +kernel
theorem dX11_plan_236 : decode cX11_plan 236 = .ok (.iconst 3, 1) := by decide +kernel
theorem dX11_plan_237 : decode cX11_plan 237 = .ok (.iload 9, 2) := by decide +kernel
theorem dX11_plan_239 : decode cX11_plan 239 = .ok (.imul, 1) := by decide +kernel
theorem dX11_plan_240 : decode cX11_plan 240 = .ok (.iload 10, 2) := by decide +kernel
theorem dX11_plan_242 : decode cX11_plan 242 = .ok (.iadd, 1) := by decide +kernel
theorem dX11_plan_243 : decode cX11_plan 243 = .ok (.iaload, 1) := by decide +kernel
theorem dX11_plan_244 : decode cX11_plan 244 = .ok (.iastore, 1) := by decide +kernel
theorem dX11_plan_245 : decode cX11_plan 245 = .ok (.iinc 10 1, 3) := by decide +kernel
theorem dX11_plan_248 : decode cX11_plan 248 = .ok (.goto (-33), 3) := by decide +kernel
theorem dX11_plan_251 : decode cX11_plan 251 = .ok (.iinc 8 (-1), 3) := by decide +kernel
theorem dX11_plan_254 : decode cX11_plan 254 = .ok (.iload 8, 2) := by decide +kernel
theorem dX11_plan_256 : decode cX11_plan 256 = .ok (.ifCond .lt 17, 3) := by decide +kernel
theorem dX11_plan_259 : decode cX11_plan 259 = .ok (.aload_n 0, 1) := by decide +kernel
theorem dX11_plan_260 : decode cX11_plan 260 = .ok (.getfield 87, 3) := by decide +kernel
theorem dX11_plan_263 : decode cX11_plan 263 = .ok (.iload 8, 2) := by decide +kernel
theorem dX11_plan_265 : decode cX11_plan 265 = .ok (.aload_n 0, 1) := by decide +kernel
theorem dX11_plan_266 : decode cX11_plan 266 = .ok (.getfield 84, 3) := by decide +kernel
theorem dX11_plan_269 : decode cX11_plan 269 = .ok (.iload 9, 2) := by decide +kernel
theorem dX11_plan_271 : decode cX11_plan 271 = .ok (.iaload, 1) := by decide +kernel
theorem dX11_plan_272 : decode cX11_plan 272 = .ok (.iastore, 1) := by decide +kernel
theorem dX11_plan_273 : decode cX11_plan 273 = .ok (.aload_n 0, 1) := by decide +kernel
theorem dX11_plan_274 : decode cX11_plan 274 = .ok (.getfield 81, 3) := by decide +kernel
theorem dX11_plan_277 : decode cX11_plan 277 = .ok (.iload 9, 2) := by decide +kernel
theorem dX11_plan_279 : decode cX11_plan 279 = .ok (.iaload, 1) := by decide +kernel
theorem dX11_plan_280 : decode cX11_plan 280 = .ok (.istore 9, 2) := by decide +kernel
theorem dX11_plan_282 : decode cX11_plan 282 = .ok (.goto (-76), 3) := by decide +kernel
theorem dX11_plan_285 : decode cX11_plan 285 = .ok (.aload_n 0, 1) := by decide +kernel
theorem dX11_plan_286 : decode cX11_plan 286 = .ok (.getfield 93, 3) := by decide +kernel
theorem dX11_plan_289 : decode cX11_plan 289 = .ok (.ireturn, 1) := by decide +kernel
set_option maxRecDepth 20000 in
theorem ggX11_step_X11_isIn : GoodIn wsX11_step wsX11_isIn := goodIn_r _ [8] (by decide +kernel) (by decide +kernel)
set_option maxRecDepth 20000 in
theorem gX11_step_X11_isIn : GoodIn wsX11_step (va_wsS RX11 303 yX11_isIn wsX11_isIn) := goodIn_app (goodIn_of _ (by decide +kernel)) ggX11_step_X11_isIn
set_option maxRecDepth 20000 in
theorem ggX11_step_X11_stepOf : GoodIn wsX11_step wsX11_stepOf := goodIn_r _ [12, 13, 14, 15, 16, 17, 18, 19, 20, 21, 22, 23, 24, 25, 26, 27, 28, 29, 30, 31, 32, 33, 34, 35, 36, 37, 38, 39, 40, 41, 42, 43, 44, 45, 46, 47, 48, 49, 50, 51, 52, 53, 54, 55, 56, 57, 58, 59, 60, 61, 62, 63, 64, 65] (by decide +kernel) (by decide +kernel)
set_option maxRecDepth 20000 in
theorem gX11_step_X11_stepOf : GoodIn wsX11_step (wsV RX11 463 RX11 yX11_stepOf wsX11_stepOf) := goodIn_app (goodIn_of _ (by decide +kernel)) ggX11_step_X11_stepOf
theorem dX11_step_0 : decode cX11_step 0 = .ok (.aload_n 0, 1) := by decide +kernel
theorem dX11_step_1 : decode cX11_step 1 = .ok (.iconst 0, 1) := by decide +kernel
theorem dX11_step_2 : decode cX11_step 2 = .ok (.putfield 106, 3) := by decide +kernel
theorem dX11_step_5 : decode cX11_step 5 = .ok (.iload_n 1, 1) := by decide +kernel
theorem dX11_step_6 : decode cX11_step 6 = .ok (.ifCond .lt 32, 3) := by decide +kernel
theorem dX11_step_9 : decode cX11_step 9 = .ok (.iload_n 1, 1) := by decide +kernel
theorem dX11_step_10 : decode cX11_step 10 = .ok (.aload_n 0, 1) := by decide +kernel
theorem dX11_step_11 : decode cX11_step 11 = .ok (.getfield 93, 3) := by decide +kernel
theorem dX11_step_14 : decode cX11_step 14 = .ok (.if_icmp .ge 24, 3) := by decide +kernel
theorem dX11_step_17 : decode cX11_step 17 = .ok (.iload_n 2, 1) := by decide +kernel
theorem dX11_step_18 : decode cX11_step 18 = .ok (.i2l, 1) := by decide +kernel
theorem dX11_step_19 : decode cX11_step 19 = .ok (.lconst 0, 1) := by decide +kernel
theorem dX11_step_20 : decode cX11_step 20 = .ok (.ldc2_w 293, 3) := by decide +kernel
theorem dX11_step_23 : decode cX11_step 23 = .ok (.invokestatic 303, 3) := by decide +kernel
theorem dX11_step_26 : decode cX11_step 26 = .ok (.ifCond .eq 12, 3) := by decide +kernel
theorem dX11_step_29 : decode cX11_step 29 = .ok (.aload_n 0, 1) := by decide +kernel
theorem dX11_step_30 : decode cX11_step 30 = .ok (.iload_n 1, 1) := by decide +kernel
theorem dX11_step_31 : decode cX11_step 31 = .ok (.iload_n 2, 1) := by decide +kernel
theorem dX11_step_32 : decode cX11_step 32 = .ok (.invokevirtual 463, 3) := by decide +kernel
theorem dX11_step_35 : decode cX11_step 35 = .ok (.goto 6, 3) := by decide +kernel
theorem dX11_step_38 : decode cX11_step 38 = .ok (.ldc_w 307, 3) := by decide +kernel
theorem dX11_step_41 : decode cX11_step 41 = .ok (.ireturn, 1) := by decide +kernel
set_option maxRecDepth 20000 in
theorem ggX11_side_X11_isIn : GoodIn wsX11_side wsX11_isIn := goodIn_r _ [9] (by decide +kernel) (by decide +kernel)
set_option maxRecDepth 20000 in
theorem gX11_side_X11_isIn : GoodIn wsX11_side (va_wsS RX11 303 yX11_isIn wsX11_isIn) := goodIn_app (goodIn_of _ (by decide +kernel)) ggX11_side_X11_isIn
theorem dX11_side_0 : decode cX11_side 0 = .ok (.aload_n 0, 1) := by decide +kernel
theorem dX11_side_1 : decode cX11_side 1 = .ok (.iconst 0, 1) := by decide +kernel
theorem dX11_side_2 : decode cX11_side 2 = .ok (.putfield 106, 3) := by decide +kernel
theorem dX11_side_5 : decode cX11_side 5 = .ok (.iload_n 1, 1) := by decide +kernel
theorem dX11_side_6 : decode cX11_side 6 = .ok (.ifCond .lt 36, 3) := by decide +kernel
theorem dX11_side_9 : decode cX11_side 9 = .ok (.iload_n 1, 1) := by decide +kernel
theorem dX11_side_10 : decode cX11_side 10 = .ok (.aload_n 0, 1) := by decide +kernel
theorem dX11_side_11 : decode cX11_side 11 = .ok (.getfield 93, 3) := by decide +kernel
theorem dX11_side_14 : decode cX11_side 14 = .ok (.if_icmp .gt 28, 3) := by decide +kernel
theorem dX11_side_17 : decode cX11_side 17 = .ok (.iload_n 2, 1) := by decide +kernel
theorem dX11_side_18 : decode cX11_side 18 = .ok (.i2l, 1) := by decide +kernel
theorem dX11_side_19 : decode cX11_side 19 = .ok (.lconst 0, 1) := by decide +kernel
theorem dX11_side_20 : decode cX11_side 20 = .ok (.ldc2_w 293, 3) := by decide +kernel
theorem dX11_side_23 : decode cX11_side 23 = .ok (.invokestatic 303, 3) := by decide +kernel
theorem dX11_side_26 : decode cX11_side 26 = .ok (.ifCond .eq 16, 3) := by decide +kernel
theorem dX11_side_29 : decode cX11_side 29 = .ok (.aload_n 0, 1) := by decide +kernel
theorem dX11_side_30 : decode cX11_side 30 = .ok (.getfield 90, 3) := by decide +kernel
theorem dX11_side_33 : decode cX11_side 33 = .ok (.iconst 3, 1) := by decide +kernel
theorem dX11_side_34 : decode cX11_side 34 = .ok (.iload_n 1, 1) := by decide +kernel
theorem dX11_side_35 : decode cX11_side 35 = .ok (.imul, 1) := by decide +kernel
theorem dX11_side_36 : decode cX11_side 36 = .ok (.iload_n 2, 1) := by decide +kernel
theorem dX11_side_37 : decode cX11_side 37 = .ok (.iadd, 1) := by decide +kernel
theorem dX11_side_38 : decode cX11_side 38 = .ok (.iaload, 1) := by decide +kernel
theorem dX11_side_39 : decode cX11_side 39 = .ok (.goto 6, 3) := by decide +kernel
theorem dX11_side_42 : decode cX11_side 42 = .ok (.ldc_w 307, 3) := by decide +kernel
theorem dX11_side_45 : decode cX11_side 45 = .ok (.ireturn, 1) := by decide +kernel
set_option maxRecDepth 20000 in
theorem ggX11_cube_X11_isIn : GoodIn wsX11_cube wsX11_isIn := goodIn_r _ [10] (by decide +kernel) (by decide +kernel)
set_option maxRecDepth 20000 in
theorem gX11_cube_X11_isIn : GoodIn wsX11_cube (va_wsS RX11 303 yX11_isIn wsX11_isIn) := goodIn_app (goodIn_of _ (by decide +kernel)) ggX11_cube_X11_isIn
set_option maxRecDepth 20000 in
theorem ggX11_cube_X11_goesOn : GoodIn wsX11_cube wsX11_goesOn := goodIn_r _ [14, 4, 6, 15, 16, 17, 9, 18, 19, 20, 21, 22, 23, 24, 25, 26, 27, 28, 29, 30, 31, 32, 33, 34, 35, 36, 37, 38, 39, 40, 41, 42, 43, 44, 45, 46, 47, 48, 49, 50, 51, 52, 53, 54, 55, 56, 57, 58, 59, 60, 61, 62, 63, 64, 65, 66, 67, 68, 69, 70, 71] (by decide +kernel) (by decide +kernel)
set_option maxRecDepth 20000 in
theorem gX11_cube_X11_goesOn : GoodIn wsX11_cube (wsV RX11 466 RX11 yX11_goesOn wsX11_goesOn) := goodIn_app (goodIn_of _ (by decide +kernel)) ggX11_cube_X11_goesOn
theorem dX11_cube_0 : decode cX11_cube 0 = .ok (.aload_n 0, 1) := by decide +kernel
theorem dX11_cube_1 : decode cX11_cube 1 = .ok (.iconst 0, 1) := by decide +kernel
theorem dX11_cube_2 : decode cX11_cube 2 = .ok (.putfield 106, 3) := by decide +kernel
theorem dX11_cube_5 : decode cX11_cube 5 = .ok (.iload 4, 2) := by decide +kernel
theorem dX11_cube_7 : decode cX11_cube 7 = .ok (.ifCond .lt 79, 3) := by decide +kernel
theorem dX11_cube_10 : decode cX11_cube 10 = .ok (.iload 4, 2) := by decide +kernel
theorem dX11_cube_12 : decode cX11_cube 12 = .ok (.aload_n 0, 1) := by decide +kernel
theorem dX11_cube_13 : decode cX11_cube 13 = .ok (.getfield 93, 3) := by decide +kernel
theorem dX11_cube_16 : decode cX11_cube 16 = .ok (.if_icmp .gt 70, 3) := by decide +kernel
theorem dX11_cube_19 : decode cX11_cube 19 = .ok (.iload 5, 2) := by decide +kernel
theorem dX11_cube_21 : decode cX11_cube 21 = .ok (.i2l, 1) := by decide +kernel
theorem dX11_cube_22 : decode cX11_cube 22 = .ok (.lconst 0, 1) := by decide +kernel
theorem dX11_cube_23 : decode cX11_cube 23 = .ok (.ldc2_w 293, 3) := by decide +kernel
theorem dX11_cube_26 : decode cX11_cube 26 = .ok (.invokestatic 303, 3) := by decide +kernel
theorem dX11_cube_29 : decode cX11_cube 29 = .ok (.ifCond .eq 57, 3) := by decide +kernel
theorem dX11_cube_32 : decode cX11_cube 32 = .ok (.iload_n 1, 1) := by decide +kernel
theorem dX11_cube_33 : decode cX11_cube 33 = .ok (.i2l, 1) := by decide +kernel
theorem dX11_cube_34 : decode cX11_cube 34 = .ok (.lconst 0, 1) := by decide +kernel
theorem dX11_cube_35 : decode cX11_cube 35 = .ok (.aload_n 0, 1) := by decide +kernel
theorem dX11_cube_36 : decode cX11_cube 36 = .ok (.getfield 90, 3) := by decide +kernel
theorem dX11_cube_39 : decode cX11_cube 39 = .ok (.iconst 0, 1) := by decide +kernel
theorem dX11_cube_40 : decode cX11_cube 40 = .ok (.iaload, 1) := by decide +kernel
theorem dX11_cube_41 : decode cX11_cube 41 = .ok (.iconst 1, 1) := by decide +kernel
theorem dX11_cube_42 : decode cX11_cube 42 = .ok (.isub, 1) := by decide +kernel
theorem dX11_cube_43 : decode cX11_cube 43 = .ok (.i2l, 1) := by decide +kernel
theorem dX11_cube_44 : decode cX11_cube 44 = .ok (.invokestatic 303, 3) := by decide +kernel
theorem dX11_cube_47 : decode cX11_cube 47 = .ok (.ifCond .eq 39, 3) := by decide +kernel
theorem dX11_cube_50 : decode cX11_cube 50 = .ok (.iload_n 2, 1) := by decide +kernel
theorem dX11_cube_51 : decode cX11_cube 51 = .ok (.i2l, 1) := by decide +kernel
theorem dX11_cube_52 : decode cX11_cube 52 = .ok (.lconst 0, 1) := by decide +kernel
theorem dX11_cube_53 : decode cX11_cube 53 = .ok (.aload_n 0, 1) := by decide +kernel
theorem dX11_cube_54 : decode cX11_cube 54 = .ok (.getfield 90, 3) := by decide +kernel
theorem dX11_cube_57 : decode cX11_cube 57 = .ok (.iconst 1, 1) := by decide +kernel
theorem dX11_cube_58 : decode cX11_cube 58 = .ok (.iaload, 1) := by decide +kernel
theorem dX11_cube_59 : decode cX11_cube 59 = .ok (.iconst 1, 1) := by decide +kernel
theorem dX11_cube_60 : decode cX11_cube 60 = .ok (.isub, 1) := by decide +kernel
theorem dX11_cube_61 : decode cX11_cube 61 = .ok (.i2l, 1) := by decide +kernel
theorem dX11_cube_62 : decode cX11_cube 62 = .ok (.invokestatic 303, 3) := by decide +kernel
theorem dX11_cube_65 : decode cX11_cube 65 = .ok (.ifCond .eq 21, 3) := by decide +kernel
theorem dX11_cube_68 : decode cX11_cube 68 = .ok (.iload_n 3, 1) := by decide +kernel
theorem dX11_cube_69 : decode cX11_cube 69 = .ok (.i2l, 1) := by decide +kernel
theorem dX11_cube_70 : decode cX11_cube 70 = .ok (.lconst 0, 1) := by decide +kernel
theorem dX11_cube_71 : decode cX11_cube 71 = .ok (.aload_n 0, 1) := by decide +kernel
theorem dX11_cube_72 : decode cX11_cube 72 = .ok (.getfield 90, 3) := by decide +kernel
theorem dX11_cube_75 : decode cX11_cube 75 = .ok (.iconst 2, 1) := by decide +kernel
theorem dX11_cube_76 : decode cX11_cube 76 = .ok (.iaload, 1) := by decide +kernel
theorem dX11_cube_77 : decode cX11_cube 77 = .ok (.iconst 1, 1) := by decide +kernel
theorem dX11_cube_78 : decode cX11_cube 78 = .ok (.isub, 1) := by decide +kernel
theorem dX11_cube_79 : decode cX11_cube 79 = .ok (.i2l, 1) := by decide +kernel
theorem dX11_cube_80 : decode cX11_cube 80 = .ok (.invokestatic 303, 3) := by decide +kernel
theorem dX11_cube_83 : decode cX11_cube 83 = .ok (.ifCond .ne 7, 3) := by decide +kernel
theorem dX11_cube_86 : decode cX11_cube 86 = .ok (.ldc_w 307, 3) := by decide +kernel
theorem dX11_cube_89 : decode cX11_cube 89 = .ok (.ireturn, 1) := by decide +kernel
theorem dX11_cube_90 : decode cX11_cube 90 = .ok (.aload_n 0, 1) := by decide +kernel
theorem dX11_cube_91 : decode cX11_cube 91 = .ok (.getfield 100, 3) := by decide +kernel
theorem dX11_cube_94 : decode cX11_cube 94 = .ok (.iconst 0, 1) := by decide +kernel
theorem dX11_cube_95 : decode cX11_cube 95 = .ok (.iload_n 1, 1) := by decide +kernel
theorem dX11_cube_96 : decode cX11_cube 96 = .ok (.iastore, 1) := by decide +kernel
theorem dX11_cube_97 : decode cX11_cube 97 = .ok (.aload_n 0, 1) := by decide +kernel
theorem dX11_cube_98 : decode cX11_cube 98 = .ok (.getfield 100, 3) := by decide +kernel
theorem dX11_cube_101 : decode cX11_cube 101 = .ok (.iconst 1, 1) := by decide +kernel
theorem dX11_cube_102 : decode cX11_cube 102 = .ok (.iload_n 2, 1) := by decide +kernel
theorem dX11_cube_103 : decode cX11_cube 103 = .ok (.iastore, 1) := by decide +kernel
theorem dX11_cube_104 : decode cX11_cube 104 = .ok (.aload_n 0, 1) := by decide +kernel
theorem dX11_cube_105 : decode cX11_cube 105 = .ok (.getfield 100, 3) := by decide +kernel
theorem dX11_cube_108 : decode cX11_cube 108 = .ok (.iconst 2, 1) := by decide +kernel
theorem dX11_cube_109 : decode cX11_cube 109 = .ok (.iload_n 3, 1) := by decide +kernel
theorem dX11_cube_110 : decode cX11_cube 110 = .ok (.iastore, 1) := by decide +kernel
theorem dX11_cube_111 : decode cX11_cube 111 = .ok (.aload_n 0, 1) := by decide +kernel
theorem dX11_cube_112 : decode cX11_cube 112 = .ok (.iload 4, 2) := by decide +kernel
theorem dX11_cube_114 : decode cX11_cube 114 = .ok (.invokevirtual 466, 3) := by decide +kernel
theorem dX11_cube_117 : decode cX11_cube 117 = .ok (.aload_n 0, 1) := by decide +kernel
theorem dX11_cube_118 : decode cX11_cube 118 = .ok (.getfield 100, 3) := by decide +kernel
theorem dX11_cube_121 : decode cX11_cube 121 = .ok (.iload 5, 2) := by decide +kernel
theorem dX11_cube_123 : decode cX11_cube 123 = .ok (.iaload, 1) := by decide +kernel
theorem dX11_cube_124 : decode cX11_cube 124 = .ok (.ireturn, 1) := by decide +kernel
set_option maxRecDepth 20000 in
theorem ggX11_pieces_X11_goesOn : GoodIn wsX11_pieces wsX11_goesOn := goodIn_r _ [11, 4, 5, 12, 13, 14, 10, 15, 16, 21, 22, 23, 24, 25, 26, 27, 28, 29, 30, 31, 32, 33, 34, 35, 36, 37, 38, 39, 40, 41, 42, 43, 44, 45, 46, 47, 48, 49, 50, 51, 52, 53, 54, 55, 56, 57, 58, 59, 60, 61, 62, 63, 64, 65, 66, 67, 68, 69, 70, 71, 72] (by decide +kernel) (by decide +kernel)
set_option maxRecDepth 20000 in
theorem gX11_pieces_X11_goesOn : GoodIn wsX11_pieces (wsV RX11 466 RX11 yX11_goesOn wsX11_goesOn) := goodIn_app (goodIn_of _ (by decide +kernel)) ggX11_pieces_X11_goesOn
set_option maxRecDepth 20000 in
theorem ggX11_pieces_X11_unlikeOf : GoodIn wsX11_pieces wsX11_unlikeOf := goodIn_r _ [20, 6, 21, 22, 23, 24, 25, 26, 27, 28, 29, 30, 31, 32, 33, 34, 35, 36, 37, 38, 39, 40, 41, 42, 43, 44, 45, 46, 47, 48, 49, 50, 51, 52, 53, 54, 55, 56, 57, 58, 59, 60, 61, 62, 63, 64, 65, 66, 67, 68, 69, 70, 71, 72] (by decide +kernel) (by decide +kernel)
set_option maxRecDepth 20000 in
theorem gX11_pieces_X11_unlikeOf : GoodIn wsX11_pieces (wsV RX11 469 RX11 yX11_unlikeOf wsX11_unlikeOf) := goodIn_app (goodIn_of _ (by decide +kernel)) ggX11_pieces_X11_unlikeOf
theorem dX11_pieces_0 : decode cX11_pieces 0 = .ok (.aload_n 0, 1) := by decide +kernel
theorem dX11_pieces_1 : decode cX11_pieces 1 = .ok (.iconst 0, 1) := by decide +kernel
theorem dX11_pieces_2 : decode cX11_pieces 2 = .ok (.putfield 106, 3) := by decide +kernel
theorem dX11_pieces_5 : decode cX11_pieces 5 = .ok (.iload_n 1, 1) := by decide +kernel
theorem dX11_pieces_6 : decode cX11_pieces 6 = .ok (.ifCond .lt 11, 3) := by decide +kernel
theorem dX11_pieces_9 : decode cX11_pieces 9 = .ok (.iload_n 1, 1) := by decide +kernel
theorem dX11_pieces_10 : decode cX11_pieces 10 = .ok (.aload_n 0, 1) := by decide +kernel
theorem dX11_pieces_11 : decode cX11_pieces 11 = .ok (.getfield 93, 3) := by decide +kernel
theorem dX11_pieces_14 : decode cX11_pieces 14 = .ok (.if_icmp .le 7, 3) := by decide +kernel
theorem dX11_pieces_17 : decode cX11_pieces 17 = .ok (.ldc_w 307, 3) := by decide +kernel
theorem dX11_pieces_20 : decode cX11_pieces 20 = .ok (.ireturn, 1) := by decide +kernel
theorem dX11_pieces_21 : decode cX11_pieces 21 = .ok (.iconst 0, 1) := by decide +kernel
theorem dX11_pieces_22 : decode cX11_pieces 22 = .ok (.istore_n 2, 1) := by decide +kernel
theorem dX11_pieces_23 : decode cX11_pieces 23 = .ok (.iconst 0, 1) := by decide +kernel
theorem dX11_pieces_24 : decode cX11_pieces 24 = .ok (.istore_n 3, 1) := by decide +kernel
theorem dX11_pieces_25 : decode cX11_pieces 25 = .ok (.iload_n 3, 1) := by decide +kernel
theorem dX11_pieces_26 : decode cX11_pieces 26 = .ok (.aload_n 0, 1) := by decide +kernel
theorem dX11_pieces_27 : decode cX11_pieces 27 = .ok (.getfield 90, 3) := by decide +kernel
theorem dX11_pieces_30 : decode cX11_pieces 30 = .ok (.iconst 0, 1) := by decide +kernel
theorem dX11_pieces_31 : decode cX11_pieces 31 = .ok (.iaload, 1) := by decide +kernel
theorem dX11_pieces_32 : decode cX11_pieces 32 = .ok (.if_icmp .ge 130, 3) := by decide +kernel
theorem dX11_pieces_35 : decode cX11_pieces 35 = .ok (.iconst 0, 1) := by decide +kernel
theorem dX11_pieces_36 : decode cX11_pieces 36 = .ok (.istore 4, 2) := by decide +kernel
theorem dX11_pieces_38 : decode cX11_pieces 38 = .ok (.iload 4, 2) := by decide +kernel
theorem dX11_pieces_40 : decode cX11_pieces 40 = .ok (.aload_n 0, 1) := by decide +kernel
theorem dX11_pieces_41 : decode cX11_pieces 41 = .ok (.getfield 90, 3) := by decide +kernel
theorem dX11_pieces_44 : decode cX11_pieces 44 = .ok (.iconst 1, 1) := by decide +kernel
theorem dX11_pieces_45 : decode cX11_pieces 45 = .ok (.iaload, 1) := by decide +kernel
theorem dX11_pieces_46 : decode cX11_pieces 46 = .ok (.if_icmp .ge 110, 3) := by decide +kernel
theorem dX11_pieces_49 : decode cX11_pieces 49 = .ok (.iconst 0, 1) := by decide +kernel
theorem dX11_pieces_50 : decode cX11_pieces 50 = .ok (.istore 5, 2) := by decide +kernel
theorem dX11_pieces_52 : decode cX11_pieces 52 = .ok (.iload 5, 2) := by decide +kernel
theorem dX11_pieces_54 : decode cX11_pieces 54 = .ok (.aload_n 0, 1) := by decide +kernel
theorem dX11_pieces_55 : decode cX11_pieces 55 = .ok (.getfield 90, 3) := by decide +kernel
theorem dX11_pieces_58 : decode cX11_pieces 58 = .ok (.iconst 2, 1) := by decide +kernel
theorem dX11_pieces_59 : decode cX11_pieces 59 = .ok (.iaload, 1) := by decide +kernel
theorem dX11_pieces_60 : decode cX11_pieces 60 = .ok (.if_icmp .ge 90, 3) := by decide +kernel
theorem dX11_pieces_63 : decode cX11_pieces 63 = .ok (.aload_n 0, 1) := by decide +kernel
theorem dX11_pieces_64 : decode cX11_pieces 64 = .ok (.getfield 100, 3) := by decide +kernel
theorem dX11_pieces_67 : decode cX11_pieces 67 = .ok (.iconst 0, 1) := by decide +kernel
theorem dX11_pieces_68 : decode cX11_pieces 68 = .ok (.iload_n 3, 1) := by decide +kernel
theorem dX11_pieces_69 : decode cX11_pieces 69 = .ok (.iastore, 1) := by decide +kernel
theorem dX11_pieces_70 : decode cX11_pieces 70 = .ok (.aload_n 0, 1) := by decide +kernel
theorem dX11_pieces_71 : decode cX11_pieces 71 = .ok (.getfield 100, 3) := by decide +kernel
theorem dX11_pieces_74 : decode cX11_pieces 74 = .ok (.iconst 1, 1) := by decide +kernel
theorem dX11_pieces_75 : decode cX11_pieces 75 = .ok (.iload 4, 2) := by decide +kernel
theorem dX11_pieces_77 : decode cX11_pieces 77 = .ok (.iastore, 1) := by decide +kernel
theorem dX11_pieces_78 : decode cX11_pieces 78 = .ok (.aload_n 0, 1) := by decide +kernel
theorem dX11_pieces_79 : decode cX11_pieces 79 = .ok (.getfield 100, 3) := by decide +kernel
theorem dX11_pieces_82 : decode cX11_pieces 82 = .ok (.iconst 2, 1) := by decide +kernel
theorem dX11_pieces_83 : decode cX11_pieces 83 = .ok (.iload 5, 2) := by decide +kernel
theorem dX11_pieces_85 : decode cX11_pieces 85 = .ok (.iastore, 1) := by decide +kernel
theorem dX11_pieces_86 : decode cX11_pieces 86 = .ok (.aload_n 0, 1) := by decide +kernel
theorem dX11_pieces_87 : decode cX11_pieces 87 = .ok (.iload_n 1, 1) := by decide +kernel
theorem dX11_pieces_88 : decode cX11_pieces 88 = .ok (.invokevirtual 466, 3) := by decide +kernel
theorem dX11_pieces_91 : decode cX11_pieces 91 = .ok (.aload_n 0, 1) := by decide +kernel
theorem dX11_pieces_92 : decode cX11_pieces 92 = .ok (.getfield 103, 3) := by decide +kernel
theorem dX11_pieces_95 : decode cX11_pieces 95 = .ok (.iload_n 2, 1) := by decide +kernel
theorem dX11_pieces_96 : decode cX11_pieces 96 = .ok (.sipush 10000, 3) := by decide +kernel
theorem dX11_pieces_99 : decode cX11_pieces 99 = .ok (.aload_n 0, 1) := by decide +kernel
theorem dX11_pieces_100 : decode cX11_pieces 100 = .ok (.getfield 100, 3) := by decide +kernel
theorem dX11_pieces_103 : decode cX11_pieces 103 = .ok (.iconst 0, 1) := by decide +kernel
theorem dX11_pieces_104 : decode cX11_pieces 104 = .ok (.iaload, 1) := by decide +kernel
theorem dX11_pieces_105 : decode cX11_pieces 105 = .ok (.iload_n 3, 1) := by decide +kernel
theorem dX11_pieces_106 : decode cX11_pieces 106 = .ok (.isub, 1) := by decide +kernel
theorem dX11_pieces_107 : decode cX11_pieces 107 = .ok (.bipush 50, 2) := by decide +kernel
theorem dX11_pieces_109 : decode cX11_pieces 109 = .ok (.iadd, 1) := by decide +kernel
theorem dX11_pieces_110 : decode cX11_pieces 110 = .ok (.imul, 1) := by decide +kernel
theorem dX11_pieces_111 : decode cX11_pieces 111 = .ok (.bipush 100, 2) := by decide +kernel
theorem dX11_pieces_113 : decode cX11_pieces 113 = .ok (.aload_n 0, 1) := by decide +kernel
theorem dX11_pieces_114 : decode cX11_pieces 114 = .ok (.getfield 100, 3) := by decide +kernel
theorem dX11_pieces_117 : decode cX11_pieces 117 = .ok (.iconst 1, 1) := by decide +kernel
theorem dX11_pieces_118 : decode cX11_pieces 118 = .ok (.iaload, 1) := by decide +kernel
theorem dX11_pieces_119 : decode cX11_pieces 119 = .ok (.iload 4, 2) := by decide +kernel
theorem dX11_pieces_121 : decode cX11_pieces 121 = .ok (.isub, 1) := by decide +kernel
theorem dX11_pieces_122 : decode cX11_pieces 122 = .ok (.bipush 50, 2) := by decide +kernel
theorem dX11_pieces_124 : decode cX11_pieces 124 = .ok (.iadd, 1) := by decide +kernel
theorem dX11_pieces_125 : decode cX11_pieces 125 = .ok (.imul, 1) := by decide +kernel
theorem dX11_pieces_126 : decode cX11_pieces 126 = .ok (.iadd, 1) := by decide +kernel
theorem dX11_pieces_127 : decode cX11_pieces 127 = .ok (.aload_n 0, 1) := by decide +kernel
theorem dX11_pieces_128 : decode cX11_pieces 128 = .ok (.getfield 100, 3) := by decide +kernel
theorem dX11_pieces_131 : decode cX11_pieces 131 = .ok (.iconst 2, 1) := by decide +kernel
theorem dX11_pieces_132 : decode cX11_pieces 132 = .ok (.iaload, 1) := by decide +kernel
theorem dX11_pieces_133 : decode cX11_pieces 133 = .ok (.iadd, 1) := by decide +kernel
theorem dX11_pieces_134 : decode cX11_pieces 134 = .ok (.iload 5, 2) := by decide +kernel
theorem dX11_pieces_136 : decode cX11_pieces 136 = .ok (.isub, 1) := by decide +kernel
theorem dX11_pieces_137 : decode cX11_pieces 137 = .ok (.bipush 50, 2) := by decide +kernel
theorem dX11_pieces_139 : decode cX11_pieces 139 = .ok (.iadd, 1) := by decide +kernel
theorem dX11_pieces_140 : decode cX11_pieces 140 = .ok (.iastore, 1) := by decide +kernel
theorem dX11_pieces_141 : decode cX11_pieces 141 = .ok (.iinc 2 1, 3) := by decide +kernel
theorem dX11_pieces_144 : decode cX11_pieces 144 = .ok (.iinc 5 1, 3) := by decide +kernel
theorem dX11_pieces_147 : decode cX11_pieces 147 = .ok (.goto (-95), 3) := by decide +kernel
theorem dX11_pieces_150 : decode cX11_pieces 150 = .ok (.iinc 4 1, 3) := by decide +kernel
theorem dX11_pieces_153 : decode cX11_pieces 153 = .ok (.goto (-115), 3) := by decide +kernel
theorem dX11_pieces_156 : decode cX11_pieces 156 = .ok (.iinc 3 1, 3) := by decide +kernel
theorem dX11_pieces_159 : decode cX11_pieces 159 = .ok (.goto (-134), 3) := by decide +kernel
theorem dX11_pieces_162 : decode cX11_pieces 162 = .ok (.aload_n 0, 1) := by decide +kernel
theorem dX11_pieces_163 : decode cX11_pieces 163 = .ok (.iload_n 2, 1) := by decide +kernel
theorem dX11_pieces_164 : decode cX11_pieces 164 = .ok (.invokevirtual 469, 3) := by decide +kernel
theorem dX11_pieces_167 : decode cX11_pieces 167 = .ok (.ireturn, 1) := by decide +kernel
set_option maxRecDepth 20000 in
theorem ggX11_greatestTerm_X11_laysSum : GoodIn wsX11_greatestTerm wsX11_laysSum := goodIn_r _ [12, 13, 14, 15, 16, 17, 11, 18, 1, 19, 20, 21, 22, 23, 24, 25, 26, 27, 28, 29, 30, 31, 32, 33, 34, 35, 36, 37, 38, 39, 40, 41, 42, 43, 44, 45, 46, 47, 48, 49, 50, 51, 52, 53, 54, 55, 56, 57, 58, 59, 60, 61, 62, 63, 64, 6, 65, 66, 67, 68, 69, 70, 71, 72, 73, 74, 75, 76, 77, 78, 79, 80, 81, 82, 83, 84, 85, 86, 87, 88, 89, 90, 91, 92, 93, 94, 95, 96, 97, 98, 99, 100, 101, 102, 103, 104, 105, 106, 107, 108, 109, 2, 3, 110, 111, 112, 113, 114, 115, 116, 117, 118, 119, 120, 121, 122, 123, 124, 125, 126, 127, 128, 129, 130, 131, 132, 133, 134, 135, 136, 137, 138, 139, 140, 141, 142, 143, 144, 145, 146, 147, 148, 149, 150, 151, 152, 153, 154, 155, 156, 157, 158, 159, 160, 161, 162, 163, 164, 165, 166, 167, 168, 169, 170, 171] (by decide +kernel) (by decide +kernel)
set_option maxRecDepth 20000 in
theorem gX11_greatestTerm_X11_laysSum : GoodIn wsX11_greatestTerm (wsV RX11 347 RX11 yX11_laysSum wsX11_laysSum) := goodIn_app (goodIn_of _ (by decide +kernel)) ggX11_greatestTerm_X11_laysSum
theorem dX11_greatestTerm_0 : decode cX11_greatestTerm 0 = .ok (.iconst 0, 1) := by decide +kernel
theorem dX11_greatestTerm_1 : decode cX11_greatestTerm 1 = .ok (.istore_n 2, 1) := by decide +kernel
theorem dX11_greatestTerm_2 : decode cX11_greatestTerm 2 = .ok (.iconst 0, 1) := by decide +kernel
theorem dX11_greatestTerm_3 : decode cX11_greatestTerm 3 = .ok (.istore_n 3, 1) := by decide +kernel
theorem dX11_greatestTerm_4 : decode cX11_greatestTerm 4 = .ok (.iload_n 3, 1) := by decide +kernel
theorem dX11_greatestTerm_5 : decode cX11_greatestTerm 5 = .ok (.iconst 4, 1) := by decide +kernel
theorem dX11_greatestTerm_6 : decode cX11_greatestTerm 6 = .ok (.if_icmp .ge 59, 3) := by decide +kernel
theorem dX11_greatestTerm_9 : decode cX11_greatestTerm 9 = .ok (.aload_n 0, 1) := by decide +kernel
theorem dX11_greatestTerm_10 : decode cX11_greatestTerm 10 = .ok (.iconst 0, 1) := by decide +kernel
theorem dX11_greatestTerm_11 : decode cX11_greatestTerm 11 = .ok (.iload_n 3, 1) := by decide +kernel
theorem dX11_greatestTerm_12 : decode cX11_greatestTerm 12 = .ok (.invokevirtual 347, 3) := by decide +kernel
theorem dX11_greatestTerm_15 : decode cX11_greatestTerm 15 = .ok (.iconst 0, 1) := by decide +kernel
theorem dX11_greatestTerm_16 : decode cX11_greatestTerm 16 = .ok (.istore 4, 2) := by decide +kernel
theorem dX11_greatestTerm_18 : decode cX11_greatestTerm 18 = .ok (.iload 4, 2) := by decide +kernel
theorem dX11_greatestTerm_20 : decode cX11_greatestTerm 20 = .ok (.aload_n 0, 1) := by decide +kernel
theorem dX11_greatestTerm_21 : decode cX11_greatestTerm 21 = .ok (.getfield 312, 3) := by decide +kernel
theorem dX11_greatestTerm_24 : decode cX11_greatestTerm 24 = .ok (.if_icmp .ge 35, 3) := by decide +kernel
theorem dX11_greatestTerm_27 : decode cX11_greatestTerm 27 = .ok (.iload_n 2, 1) := by decide +kernel
theorem dX11_greatestTerm_28 : decode cX11_greatestTerm 28 = .ok (.iload_n 1, 1) := by decide +kernel
theorem dX11_greatestTerm_29 : decode cX11_greatestTerm 29 = .ok (.ifCond .eq 13, 3) := by decide +kernel
theorem dX11_greatestTerm_32 : decode cX11_greatestTerm 32 = .ok (.aload_n 0, 1) := by decide +kernel
theorem dX11_greatestTerm_33 : decode cX11_greatestTerm 33 = .ok (.getfield 29, 3) := by decide +kernel
theorem dX11_greatestTerm_36 : decode cX11_greatestTerm 36 = .ok (.iload 4, 2) := by decide +kernel
theorem dX11_greatestTerm_38 : decode cX11_greatestTerm 38 = .ok (.iaload, 1) := by decide +kernel
theorem dX11_greatestTerm_39 : decode cX11_greatestTerm 39 = .ok (.goto 10, 3) := by decide +kernel
theorem dX11_greatestTerm_42 : decode cX11_greatestTerm 42 = .ok (.aload_n 0, 1) := by decide +kernel
theorem dX11_greatestTerm_43 : decode cX11_greatestTerm 43 = .ok (.getfield 32, 3) := by decide +kernel
theorem dX11_greatestTerm_46 : decode cX11_greatestTerm 46 = .ok (.iload 4, 2) := by decide +kernel
theorem dX11_greatestTerm_48 : decode cX11_greatestTerm 48 = .ok (.iaload, 1) := by decide +kernel
theorem dX11_greatestTerm_49 : decode cX11_greatestTerm 49 = .ok (.invokestatic 472, 3) := by decide +kernel
theorem dX11_greatestTerm_52 : decode cX11_greatestTerm 52 = .ok (.istore_n 2, 1) := by decide +kernel
theorem dX11_greatestTerm_53 : decode cX11_greatestTerm 53 = .ok (.iinc 4 1, 3) := by decide +kernel
theorem dX11_greatestTerm_56 : decode cX11_greatestTerm 56 = .ok (.goto (-38), 3) := by decide +kernel
theorem dX11_greatestTerm_59 : decode cX11_greatestTerm 59 = .ok (.iinc 3 1, 3) := by decide +kernel
theorem dX11_greatestTerm_62 : decode cX11_greatestTerm 62 = .ok (.goto (-58), 3) := by decide +kernel
theorem dX11_greatestTerm_65 : decode cX11_greatestTerm 65 = .ok (.iload_n 2, 1) := by decide +kernel
theorem dX11_greatestTerm_66 : decode cX11_greatestTerm 66 = .ok (.ireturn, 1) := by decide +kernel
set_option maxRecDepth 20000 in
theorem ggX11_greatestSix_X11_six : GoodIn wsX11_greatestSix wsX11_six := goodIn_r _ [10, 11, 12, 4, 13, 14, 15, 16, 9, 17, 18, 19, 20, 21, 22, 23, 24, 25, 26, 27, 28, 29, 30, 31, 32, 33, 34, 35, 36, 37, 38, 39, 40, 41, 42, 43, 44, 45, 46, 47, 48, 49, 50, 51, 52, 53, 54, 55, 56, 57, 58, 59, 60, 61, 62, 63, 64, 65, 66, 67, 68, 69, 70, 71, 72, 73, 74, 75, 76, 77, 78, 79, 80, 81, 82, 83, 84] (by decide +kernel) (by decide +kernel)
set_option maxRecDepth 20000 in
theorem gX11_greatestSix_X11_six : GoodIn wsX11_greatestSix (wsV RX11 261 RX11 yX11_six wsX11_six) := goodIn_app (goodIn_of _ (by decide +kernel)) ggX11_greatestSix_X11_six
theorem dX11_greatestSix_0 : decode cX11_greatestSix 0 = .ok (.iconst 0, 1) := by decide +kernel
theorem dX11_greatestSix_1 : decode cX11_greatestSix 1 = .ok (.istore_n 1, 1) := by decide +kernel
theorem dX11_greatestSix_2 : decode cX11_greatestSix 2 = .ok (.iconst 0, 1) := by decide +kernel
theorem dX11_greatestSix_3 : decode cX11_greatestSix 3 = .ok (.istore_n 2, 1) := by decide +kernel
theorem dX11_greatestSix_4 : decode cX11_greatestSix 4 = .ok (.iload_n 2, 1) := by decide +kernel
theorem dX11_greatestSix_5 : decode cX11_greatestSix 5 = .ok (.aload_n 0, 1) := by decide +kernel
theorem dX11_greatestSix_6 : decode cX11_greatestSix 6 = .ok (.getfield 191, 3) := by decide +kernel
theorem dX11_greatestSix_9 : decode cX11_greatestSix 9 = .ok (.if_icmp .ge 19, 3) := by decide +kernel
theorem dX11_greatestSix_12 : decode cX11_greatestSix 12 = .ok (.iload_n 1, 1) := by decide +kernel
theorem dX11_greatestSix_13 : decode cX11_greatestSix 13 = .ok (.aload_n 0, 1) := by decide +kernel
theorem dX11_greatestSix_14 : decode cX11_greatestSix 14 = .ok (.iload_n 2, 1) := by decide +kernel
theorem dX11_greatestSix_15 : decode cX11_greatestSix 15 = .ok (.invokevirtual 261, 3) := by decide +kernel
theorem dX11_greatestSix_18 : decode cX11_greatestSix 18 = .ok (.invokestatic 472, 3) := by decide +kernel
theorem dX11_greatestSix_21 : decode cX11_greatestSix 21 = .ok (.istore_n 1, 1) := by decide +kernel
theorem dX11_greatestSix_22 : decode cX11_greatestSix 22 = .ok (.iinc 2 1, 3) := by decide +kernel
theorem dX11_greatestSix_25 : decode cX11_greatestSix 25 = .ok (.goto (-21), 3) := by decide +kernel
theorem dX11_greatestSix_28 : decode cX11_greatestSix 28 = .ok (.iload_n 1, 1) := by decide +kernel
theorem dX11_greatestSix_29 : decode cX11_greatestSix 29 = .ok (.ireturn, 1) := by decide +kernel
set_option maxRecDepth 20000 in
theorem ggX11_withPoints_X11_hasFairest : GoodIn wsX11_withPoints wsX11_hasFairest := goodIn_r _ [6, 7, 8, 9, 10, 5, 11, 12, 13, 14, 15, 16, 17, 18, 19, 20, 21, 22, 23, 24, 25, 26, 27, 28, 29, 30, 31, 32, 33, 34, 35, 36, 37, 38, 39, 40, 41, 42, 43, 44, 45, 46, 47, 48, 49, 50, 51, 52, 53, 54, 55, 56, 57, 58, 59, 60, 61, 62, 63, 64, 65, 66, 67, 68, 69, 70, 71, 72, 73, 74, 75, 76, 77, 78, 79, 80, 81, 82, 83, 84, 85, 86, 87, 88, 89, 90, 91, 92, 93, 94, 95, 96, 97, 98, 99, 100, 101, 102, 103, 104] (by decide +kernel) (by decide +kernel)
set_option maxRecDepth 20000 in
theorem gX11_withPoints_X11_hasFairest : GoodIn wsX11_withPoints (wsV RX11 382 RX11 yX11_hasFairest wsX11_hasFairest) := goodIn_app (goodIn_of _ (by decide +kernel)) ggX11_withPoints_X11_hasFairest
theorem dX11_withPoints_0 : decode cX11_withPoints 0 = .ok (.iconst 0, 1) := by decide +kernel
theorem dX11_withPoints_1 : decode cX11_withPoints 1 = .ok (.istore_n 1, 1) := by decide +kernel
theorem dX11_withPoints_2 : decode cX11_withPoints 2 = .ok (.iconst 0, 1) := by decide +kernel
theorem dX11_withPoints_3 : decode cX11_withPoints 3 = .ok (.istore_n 2, 1) := by decide +kernel
theorem dX11_withPoints_4 : decode cX11_withPoints 4 = .ok (.iload_n 2, 1) := by decide +kernel
theorem dX11_withPoints_5 : decode cX11_withPoints 5 = .ok (.aload_n 0, 1) := by decide +kernel
theorem dX11_withPoints_6 : decode cX11_withPoints 6 = .ok (.getfield 191, 3) := by decide +kernel
theorem dX11_withPoints_9 : decode cX11_withPoints 9 = .ok (.if_icmp .ge 25, 3) := by decide +kernel
theorem dX11_withPoints_12 : decode cX11_withPoints 12 = .ok (.iload_n 1, 1) := by decide +kernel
theorem dX11_withPoints_13 : decode cX11_withPoints 13 = .ok (.aload_n 0, 1) := by decide +kernel
theorem dX11_withPoints_14 : decode cX11_withPoints 14 = .ok (.iload_n 2, 1) := by decide +kernel
theorem dX11_withPoints_15 : decode cX11_withPoints 15 = .ok (.invokevirtual 382, 3) := by decide +kernel
theorem dX11_withPoints_18 : decode cX11_withPoints 18 = .ok (.ifCond .eq 7, 3) := by decide +kernel
theorem dX11_withPoints_21 : decode cX11_withPoints 21 = .ok (.iconst 1, 1) := by decide +kernel
theorem dX11_withPoints_22 : decode cX11_withPoints 22 = .ok (.goto 4, 3) := by decide +kernel
theorem dX11_withPoints_25 : decode cX11_withPoints 25 = .ok (.iconst 0, 1) := by decide +kernel
theorem dX11_withPoints_26 : decode cX11_withPoints 26 = .ok (.iadd, 1) := by decide +kernel
theorem dX11_withPoints_27 : decode cX11_withPoints 27 = .ok (.istore_n 1, 1) := by decide +kernel
theorem dX11_withPoints_28 : decode cX11_withPoints 28 = .ok (.iinc 2 1, 3) := by decide +kernel
theorem dX11_withPoints_31 : decode cX11_withPoints 31 = .ok (.goto (-27), 3) := by decide +kernel
theorem dX11_withPoints_34 : decode cX11_withPoints 34 = .ok (.iload_n 1, 1) := by decide +kernel
theorem dX11_withPoints_35 : decode cX11_withPoints 35 = .ok (.ireturn, 1) := by decide +kernel
set_option maxRecDepth 20000 in
theorem ggX11_withoutSum_X11_laysSum : GoodIn wsX11_withoutSum wsX11_laysSum := goodIn_r _ [6, 7, 8, 9, 10, 11, 5, 12, 1, 13, 14, 15, 16, 17, 18, 19, 20, 21, 22, 23, 24, 25, 26, 27, 28, 29, 30, 31, 32, 33, 34, 35, 36, 37, 38, 39, 40, 41, 42, 43, 44, 45, 46, 47, 48, 49, 50, 51, 52, 53, 54, 55, 56, 57, 58, 59, 60, 61, 62, 63, 64, 65, 66, 67, 68, 69, 70, 71, 72, 73, 74, 75, 76, 77, 78, 79, 80, 81, 82, 83, 84, 85, 86, 87, 88, 89, 90, 91, 92, 93, 94, 95, 96, 97, 98, 99, 100, 101, 102, 103, 104, 105, 106, 107, 108, 109, 110, 111, 112, 113, 114, 115, 116, 117, 118, 119, 120, 121, 122, 123, 124, 125, 126, 127, 128, 129, 130, 131, 132, 133, 134, 135, 136, 137, 138, 139, 140, 141, 142, 143, 144, 145, 146, 147, 148, 149, 150, 151, 152, 153, 154, 155, 156, 157, 158, 159, 160, 161, 162, 163, 164, 165, 166, 167, 168] (by decide +kernel) (by decide +kernel)
set_option maxRecDepth 20000 in
theorem gX11_withoutSum_X11_laysSum : GoodIn wsX11_withoutSum (wsV RX11 347 RX11 yX11_laysSum wsX11_laysSum) := goodIn_app (goodIn_of _ (by decide +kernel)) ggX11_withoutSum_X11_laysSum
theorem dX11_withoutSum_0 : decode cX11_withoutSum 0 = .ok (.iconst 0, 1) := by decide +kernel
theorem dX11_withoutSum_1 : decode cX11_withoutSum 1 = .ok (.istore_n 1, 1) := by decide +kernel
theorem dX11_withoutSum_2 : decode cX11_withoutSum 2 = .ok (.iconst 0, 1) := by decide +kernel
theorem dX11_withoutSum_3 : decode cX11_withoutSum 3 = .ok (.istore_n 2, 1) := by decide +kernel
theorem dX11_withoutSum_4 : decode cX11_withoutSum 4 = .ok (.iload_n 2, 1) := by decide +kernel
theorem dX11_withoutSum_5 : decode cX11_withoutSum 5 = .ok (.iconst 4, 1) := by decide +kernel
theorem dX11_withoutSum_6 : decode cX11_withoutSum 6 = .ok (.if_icmp .ge 32, 3) := by decide +kernel
theorem dX11_withoutSum_9 : decode cX11_withoutSum 9 = .ok (.aload_n 0, 1) := by decide +kernel
theorem dX11_withoutSum_10 : decode cX11_withoutSum 10 = .ok (.iconst 0, 1) := by decide +kernel
theorem dX11_withoutSum_11 : decode cX11_withoutSum 11 = .ok (.iload_n 2, 1) := by decide +kernel
theorem dX11_withoutSum_12 : decode cX11_withoutSum 12 = .ok (.invokevirtual 347, 3) := by decide +kernel
theorem dX11_withoutSum_15 : decode cX11_withoutSum 15 = .ok (.iload_n 1, 1) := by decide +kernel
theorem dX11_withoutSum_16 : decode cX11_withoutSum 16 = .ok (.aload_n 0, 1) := by decide +kernel
theorem dX11_withoutSum_17 : decode cX11_withoutSum 17 = .ok (.getfield 312, 3) := by decide +kernel
theorem dX11_withoutSum_20 : decode cX11_withoutSum 20 = .ok (.ifCond .ne 9, 3) := by decide +kernel
theorem dX11_withoutSum_23 : decode cX11_withoutSum 23 = .ok (.iconst 1, 1) := by decide +kernel
theorem dX11_withoutSum_24 : decode cX11_withoutSum 24 = .ok (.iload_n 2, 1) := by decide +kernel
theorem dX11_withoutSum_25 : decode cX11_withoutSum 25 = .ok (.ishl, 1) := by decide +kernel
theorem dX11_withoutSum_26 : decode cX11_withoutSum 26 = .ok (.goto 4, 3) := by decide +kernel
theorem dX11_withoutSum_29 : decode cX11_withoutSum 29 = .ok (.iconst 0, 1) := by decide +kernel
theorem dX11_withoutSum_30 : decode cX11_withoutSum 30 = .ok (.ior, 1) := by decide +kernel
theorem dX11_withoutSum_31 : decode cX11_withoutSum 31 = .ok (.istore_n 1, 1) := by decide +kernel
theorem dX11_withoutSum_32 : decode cX11_withoutSum 32 = .ok (.iinc 2 1, 3) := by decide +kernel
theorem dX11_withoutSum_35 : decode cX11_withoutSum 35 = .ok (.goto (-31), 3) := by decide +kernel
theorem dX11_withoutSum_38 : decode cX11_withoutSum 38 = .ok (.iload_n 1, 1) := by decide +kernel
theorem dX11_withoutSum_39 : decode cX11_withoutSum 39 = .ok (.ireturn, 1) := by decide +kernel
set_option maxRecDepth 20000 in
theorem ggX11_alikeMany_X11_tetsOf : GoodIn wsX11_alikeMany wsX11_tetsOf := goodIn_r _ [5, 6, 7, 132, 133, 134, 135, 136, 137, 138, 139, 140, 141, 142, 143, 144, 145, 146, 147, 148, 149, 150, 151, 152, 153, 154, 155, 156, 157, 158, 159, 160, 161, 162, 163, 164, 165, 166, 167, 168, 169, 170, 171, 172, 173, 174, 175, 176, 177, 178, 179, 180, 181, 182, 183] (by decide +kernel) (by decide +kernel)
set_option maxRecDepth 20000 in
theorem gX11_alikeMany_X11_tetsOf : GoodIn wsX11_alikeMany (wsV RX11 340 RX11 yX11_tetsOf wsX11_tetsOf) := goodIn_app (goodIn_of _ (by decide +kernel)) ggX11_alikeMany_X11_tetsOf
set_option maxRecDepth 20000 in
theorem ggX11_alikeMany_X11_volume : GoodIn wsX11_alikeMany wsX11_volume := goodIn_r _ [11, 6, 7, 12, 13, 14, 4, 15, 16, 17, 18, 19, 20, 21, 22, 23, 24, 25, 26, 27, 28, 29, 30, 31, 32, 33, 34, 35, 36, 37, 132, 133, 134, 135, 136, 137, 138, 139, 140, 141, 142, 143, 144, 145, 146, 147, 148, 149, 150, 151, 152, 153, 154, 155, 156, 157, 158, 159, 160, 161, 162, 163, 164, 165, 166, 167, 168, 169, 170, 171, 172, 173, 174, 175, 176, 177, 178, 179, 180, 181, 182, 183] (by decide +kernel) (by decide +kernel)
set_option maxRecDepth 20000 in
theorem gX11_alikeMany_X11_volume : GoodIn wsX11_alikeMany (wsV RX11 337 RX11 yX11_volume wsX11_volume) := goodIn_app (goodIn_of _ (by decide +kernel)) ggX11_alikeMany_X11_volume
set_option maxRecDepth 20000 in
theorem ggX11_alikeMany_X11_areSums : GoodIn wsX11_alikeMany wsX11_areSums := goodIn_r _ [41, 42, 43, 44, 45, 46, 47, 48, 49, 50, 51, 52, 4, 53, 6, 7, 54, 55, 56, 57, 58, 59, 60, 61, 62, 63, 64, 65, 66, 67, 68, 69, 70, 71, 72, 73, 24, 25, 26, 27, 28, 29, 30, 31, 32, 33, 34, 74, 75, 76, 77, 78, 79, 80, 81, 82, 83, 84, 85, 12, 13, 14, 15, 16, 17, 18, 19, 20, 21, 22, 23, 35, 36, 37, 86, 87, 88, 89, 90, 91, 92, 93, 94, 95, 96, 97, 98, 99, 100, 101, 102, 103, 104, 105, 106, 107, 108, 109, 110, 111, 112, 113, 114, 115, 116, 117, 118, 119, 120, 121, 122, 123, 124, 125, 126, 127, 128, 129, 130, 131, 132, 133, 134, 135, 136, 137, 138, 139, 140, 141, 142, 143, 144, 145, 146, 147, 148, 149, 150, 151, 152, 153, 154, 155, 156, 157, 158, 159, 160, 161, 162, 163, 164, 165, 166, 167, 168, 169, 170, 171, 172, 173, 174, 175, 176, 177, 178, 179, 180, 181, 182, 183] (by decide +kernel) (by decide +kernel)
set_option maxRecDepth 20000 in
theorem gX11_alikeMany_X11_areSums : GoodIn wsX11_alikeMany (wsV RX11 362 RX11 yX11_areSums wsX11_areSums) := goodIn_app (goodIn_of _ (by decide +kernel)) ggX11_alikeMany_X11_areSums
theorem dX11_alikeMany_0 : decode cX11_alikeMany 0 = .ok (.iconst 0, 1) := by decide +kernel
theorem dX11_alikeMany_1 : decode cX11_alikeMany 1 = .ok (.istore_n 1, 1) := by decide +kernel
theorem dX11_alikeMany_2 : decode cX11_alikeMany 2 = .ok (.iconst 0, 1) := by decide +kernel
theorem dX11_alikeMany_3 : decode cX11_alikeMany 3 = .ok (.istore_n 2, 1) := by decide +kernel
theorem dX11_alikeMany_4 : decode cX11_alikeMany 4 = .ok (.iload_n 2, 1) := by decide +kernel
theorem dX11_alikeMany_5 : decode cX11_alikeMany 5 = .ok (.iconst 4, 1) := by decide +kernel
theorem dX11_alikeMany_6 : decode cX11_alikeMany 6 = .ok (.if_icmp .ge 70, 3) := by decide +kernel
theorem dX11_alikeMany_9 : decode cX11_alikeMany 9 = .ok (.iload_n 2, 1) := by decide +kernel
theorem dX11_alikeMany_10 : decode cX11_alikeMany 10 = .ok (.iconst 1, 1) := by decide +kernel
theorem dX11_alikeMany_11 : decode cX11_alikeMany 11 = .ok (.iadd, 1) := by decide +kernel
theorem dX11_alikeMany_12 : decode cX11_alikeMany 12 = .ok (.istore_n 3, 1) := by decide +kernel
theorem dX11_alikeMany_13 : decode cX11_alikeMany 13 = .ok (.iload_n 3, 1) := by decide +kernel
theorem dX11_alikeMany_14 : decode cX11_alikeMany 14 = .ok (.iconst 4, 1) := by decide +kernel
theorem dX11_alikeMany_15 : decode cX11_alikeMany 15 = .ok (.if_icmp .ge 55, 3) := by decide +kernel
theorem dX11_alikeMany_18 : decode cX11_alikeMany 18 = .ok (.iload_n 1, 1) := by decide +kernel
theorem dX11_alikeMany_19 : decode cX11_alikeMany 19 = .ok (.aload_n 0, 1) := by decide +kernel
theorem dX11_alikeMany_20 : decode cX11_alikeMany 20 = .ok (.iload_n 2, 1) := by decide +kernel
theorem dX11_alikeMany_21 : decode cX11_alikeMany 21 = .ok (.invokevirtual 340, 3) := by decide +kernel
theorem dX11_alikeMany_24 : decode cX11_alikeMany 24 = .ok (.ifCond .le 37, 3) := by decide +kernel
theorem dX11_alikeMany_27 : decode cX11_alikeMany 27 = .ok (.aload_n 0, 1) := by decide +kernel
theorem dX11_alikeMany_28 : decode cX11_alikeMany 28 = .ok (.iload_n 3, 1) := by decide +kernel
theorem dX11_alikeMany_29 : decode cX11_alikeMany 29 = .ok (.invokevirtual 340, 3) := by decide +kernel
theorem dX11_alikeMany_32 : decode cX11_alikeMany 32 = .ok (.ifCond .le 29, 3) := by decide +kernel
theorem dX11_alikeMany_35 : decode cX11_alikeMany 35 = .ok (.aload_n 0, 1) := by decide +kernel
theorem dX11_alikeMany_36 : decode cX11_alikeMany 36 = .ok (.iload_n 2, 1) := by decide +kernel
theorem dX11_alikeMany_37 : decode cX11_alikeMany 37 = .ok (.invokevirtual 337, 3) := by decide +kernel
theorem dX11_alikeMany_40 : decode cX11_alikeMany 40 = .ok (.aload_n 0, 1) := by decide +kernel
theorem dX11_alikeMany_41 : decode cX11_alikeMany 41 = .ok (.iload_n 3, 1) := by decide +kernel
theorem dX11_alikeMany_42 : decode cX11_alikeMany 42 = .ok (.invokevirtual 337, 3) := by decide +kernel
theorem dX11_alikeMany_45 : decode cX11_alikeMany 45 = .ok (.if_icmp .ne 16, 3) := by decide +kernel
theorem dX11_alikeMany_48 : decode cX11_alikeMany 48 = .ok (.aload_n 0, 1) := by decide +kernel
theorem dX11_alikeMany_49 : decode cX11_alikeMany 49 = .ok (.iload_n 2, 1) := by decide +kernel
theorem dX11_alikeMany_50 : decode cX11_alikeMany 50 = .ok (.iload_n 3, 1) := by decide +kernel
theorem dX11_alikeMany_51 : decode cX11_alikeMany 51 = .ok (.invokevirtual 362, 3) := by decide +kernel
theorem dX11_alikeMany_54 : decode cX11_alikeMany 54 = .ok (.ifCond .eq 7, 3) := by decide +kernel
theorem dX11_alikeMany_57 : decode cX11_alikeMany 57 = .ok (.iconst 1, 1) := by decide +kernel
theorem dX11_alikeMany_58 : decode cX11_alikeMany 58 = .ok (.goto 4, 3) := by decide +kernel
theorem dX11_alikeMany_61 : decode cX11_alikeMany 61 = .ok (.iconst 0, 1) := by decide +kernel
theorem dX11_alikeMany_62 : decode cX11_alikeMany 62 = .ok (.iadd, 1) := by decide +kernel
theorem dX11_alikeMany_63 : decode cX11_alikeMany 63 = .ok (.istore_n 1, 1) := by decide +kernel
theorem dX11_alikeMany_64 : decode cX11_alikeMany 64 = .ok (.iinc 3 1, 3) := by decide +kernel
theorem dX11_alikeMany_67 : decode cX11_alikeMany 67 = .ok (.goto (-54), 3) := by decide +kernel
theorem dX11_alikeMany_70 : decode cX11_alikeMany 70 = .ok (.iinc 2 1, 3) := by decide +kernel
theorem dX11_alikeMany_73 : decode cX11_alikeMany 73 = .ok (.goto (-69), 3) := by decide +kernel
theorem dX11_alikeMany_76 : decode cX11_alikeMany 76 = .ok (.iload_n 1, 1) := by decide +kernel
theorem dX11_alikeMany_77 : decode cX11_alikeMany 77 = .ok (.ireturn, 1) := by decide +kernel
set_option maxRecDepth 20000 in
theorem ggX11_most_X11_greatestTerm : GoodIn wsX11_most wsX11_greatestTerm := goodIn_r _ [7, 8, 9, 10, 11, 12, 13, 14, 15, 16, 17, 6, 18, 19, 20, 21, 22, 23, 24, 25, 26, 27, 28, 29, 30, 31, 32, 33, 34, 35, 36, 37, 38, 39, 40, 41, 42, 43, 44, 45, 46, 47, 48, 49, 50, 51, 52, 53, 54, 55, 56, 57, 58, 59, 60, 61, 62, 63, 64, 65, 66, 67, 68, 69, 70, 71, 72, 73, 74, 75, 76, 77, 78, 79, 80, 81, 82, 83, 84, 85, 86, 87, 88, 89, 90, 91, 92, 93, 94, 95, 96, 97, 98, 99, 100, 101, 102, 103, 104, 105, 106, 107, 108, 109, 110, 111, 112, 113, 114, 115, 116, 117, 118, 119, 120, 121, 122, 123, 124, 125, 192, 193, 194, 195, 196, 197, 198, 199, 200, 201, 202, 203, 204, 205, 206, 207, 208, 209, 210, 211, 212, 213, 214, 215, 216, 217, 218, 219, 220, 221, 222, 223, 224, 225, 226, 227, 228, 229, 230, 231, 232, 233, 234, 235, 236, 237, 238, 239, 240, 241, 242, 243] (by decide +kernel) (by decide +kernel)
set_option maxRecDepth 20000 in
theorem gX11_most_X11_greatestTerm : GoodIn wsX11_most (wsV RX11 475 RX11 yX11_greatestTerm wsX11_greatestTerm) := goodIn_app (goodIn_of _ (by decide +kernel)) ggX11_most_X11_greatestTerm
set_option maxRecDepth 20000 in
theorem ggX11_most_X11_edgesOf : GoodIn wsX11_most wsX11_edgesOf := goodIn_r _ [129, 19, 20, 34, 26, 27, 28, 6, 29, 30, 31, 32, 33, 35, 36, 37, 38, 39, 40, 41, 42, 43, 44, 45, 46, 47, 48, 49, 50, 51, 52, 53, 54, 55, 56, 57, 58, 59, 60, 61, 62, 63, 64, 65, 66, 67, 68, 69, 70, 13, 71, 72, 73, 74, 75, 76, 77, 78, 79, 80, 81, 82, 83, 84, 85, 86, 87, 88, 89, 90, 91, 92, 93, 94, 95, 96, 97, 98, 99, 100, 101, 102, 103, 104, 105, 106, 107, 192, 193, 194, 195, 196, 197, 198, 199, 200, 201, 202, 203, 204, 205, 206, 207, 208, 209, 210, 211, 212, 213, 214, 215, 216, 217, 218, 219, 220, 221, 222, 223, 224, 225, 226, 227, 228, 229, 230, 231, 232, 233, 234, 235, 236, 237, 238, 239, 240, 241, 242, 243] (by decide +kernel) (by decide +kernel)
set_option maxRecDepth 20000 in
theorem gX11_most_X11_edgesOf : GoodIn wsX11_most (wsV RX11 343 RX11 yX11_edgesOf wsX11_edgesOf) := goodIn_app (goodIn_of _ (by decide +kernel)) ggX11_most_X11_edgesOf
set_option maxRecDepth 20000 in
theorem ggX11_most_X11_greatestSix : GoodIn wsX11_most wsX11_greatestSix := goodIn_r _ [133, 19, 11, 12, 13, 14, 65, 66, 67, 6, 68, 69, 70, 71, 72, 73, 74, 75, 42, 43, 44, 45, 46, 47, 48, 49, 20, 50, 51, 52, 76, 77, 78, 192, 193, 194, 195, 196, 197, 198, 199, 200, 201, 202, 203, 204, 205, 206, 207, 208, 209, 210, 211, 212, 213, 214, 215, 216, 217, 218, 219, 220, 221, 222, 223, 224, 225, 226, 227, 228, 229, 230, 231, 232, 233, 234, 235, 236, 237, 238, 239, 240, 241, 242, 243] (by decide +kernel) (by decide +kernel)
set_option maxRecDepth 20000 in
theorem gX11_most_X11_greatestSix : GoodIn wsX11_most (wsV RX11 479 RX11 yX11_greatestSix wsX11_greatestSix) := goodIn_app (goodIn_of _ (by decide +kernel)) ggX11_most_X11_greatestSix
set_option maxRecDepth 20000 in
theorem ggX11_most_X11_withPoints : GoodIn wsX11_most wsX11_withPoints := goodIn_r _ [137, 19, 138, 139, 140, 6, 141, 142, 143, 144, 145, 146, 147, 148, 149, 150, 151, 152, 153, 154, 155, 156, 72, 73, 74, 75, 42, 43, 44, 45, 46, 47, 48, 49, 20, 50, 51, 52, 76, 77, 78, 157, 158, 159, 160, 161, 162, 163, 164, 165, 166, 167, 168, 192, 193, 194, 195, 196, 197, 198, 199, 200, 201, 202, 203, 204, 205, 206, 207, 208, 209, 210, 211, 212, 213, 214, 215, 216, 217, 218, 219, 220, 221, 222, 223, 224, 225, 226, 227, 228, 229, 230, 231, 232, 233, 234, 235, 236, 237, 238, 239, 240, 241, 242, 243] (by decide +kernel) (by decide +kernel)
set_option maxRecDepth 20000 in
theorem gX11_most_X11_withPoints : GoodIn wsX11_most (wsV RX11 482 RX11 yX11_withPoints wsX11_withPoints) := goodIn_app (goodIn_of _ (by decide +kernel)) ggX11_most_X11_withPoints
set_option maxRecDepth 20000 in
theorem ggX11_most_X11_withoutSum : GoodIn wsX11_most wsX11_withoutSum := goodIn_r _ [172, 8, 15, 16, 17, 6, 18, 19, 20, 21, 22, 23, 24, 25, 26, 27, 28, 29, 30, 31, 32, 33, 34, 35, 36, 37, 38, 39, 40, 41, 42, 43, 44, 45, 46, 47, 48, 49, 50, 51, 52, 53, 54, 55, 56, 57, 58, 59, 60, 61, 62, 63, 64, 65, 66, 67, 68, 69, 70, 13, 71, 72, 73, 74, 75, 76, 77, 78, 79, 80, 81, 82, 83, 84, 85, 86, 87, 88, 89, 90, 91, 92, 93, 94, 95, 96, 97, 98, 99, 100, 101, 102, 103, 104, 105, 106, 107, 108, 109, 110, 111, 112, 113, 114, 115, 9, 10, 116, 117, 118, 119, 120, 121, 122, 123, 124, 125, 192, 193, 194, 195, 196, 197, 198, 199, 200, 201, 202, 203, 204, 205, 206, 207, 208, 209, 210, 211, 212, 213, 214, 215, 216, 217, 218, 219, 220, 221, 222, 223, 224, 225, 226, 227, 228, 229, 230, 231, 232, 233, 234, 235, 236, 237, 238, 239, 240, 241, 242, 243] (by decide +kernel) (by decide +kernel)
set_option maxRecDepth 20000 in
theorem gX11_most_X11_withoutSum : GoodIn wsX11_most (wsV RX11 485 RX11 yX11_withoutSum wsX11_withoutSum) := goodIn_app (goodIn_of _ (by decide +kernel)) ggX11_most_X11_withoutSum
set_option maxRecDepth 20000 in
theorem ggX11_most_X11_alikeMany : GoodIn wsX11_most wsX11_alikeMany := goodIn_r _ [176, 177, 178, 179, 6, 180, 19, 20, 181, 182, 183, 184, 65, 66, 67, 68, 69, 70, 13, 71, 72, 73, 74, 75, 42, 43, 44, 45, 46, 47, 48, 49, 50, 51, 52, 76, 77, 78, 185, 186, 187, 188, 25, 8, 9, 10, 189, 190, 116, 191, 15, 16, 17, 18, 21, 22, 23, 24, 26, 27, 28, 29, 30, 31, 32, 33, 34, 35, 36, 37, 38, 39, 40, 41, 53, 54, 55, 56, 57, 58, 59, 60, 61, 62, 63, 64, 79, 80, 81, 82, 83, 84, 85, 86, 87, 88, 89, 90, 91, 92, 93, 94, 95, 96, 97, 98, 99, 100, 101, 102, 103, 104, 105, 106, 107, 108, 109, 110, 111, 112, 113, 114, 115, 117, 118, 119, 120, 121, 122, 123, 124, 125, 192, 193, 194, 195, 196, 197, 198, 199, 200, 201, 202, 203, 204, 205, 206, 207, 208, 209, 210, 211, 212, 213, 214, 215, 216, 217, 218, 219, 220, 221, 222, 223, 224, 225, 226, 227, 228, 229, 230, 231, 232, 233, 234, 235, 236, 237, 238, 239, 240, 241, 242, 243] (by decide +kernel) (by decide +kernel)
set_option maxRecDepth 20000 in
theorem gX11_most_X11_alikeMany : GoodIn wsX11_most (wsV RX11 488 RX11 yX11_alikeMany wsX11_alikeMany) := goodIn_app (goodIn_of _ (by decide +kernel)) ggX11_most_X11_alikeMany
theorem dX11_most_0 : decode cX11_most 0 = .ok (.aload_n 0, 1) := by decide +kernel
theorem dX11_most_1 : decode cX11_most 1 = .ok (.iconst 0, 1) := by decide +kernel
theorem dX11_most_2 : decode cX11_most 2 = .ok (.putfield 106, 3) := by decide +kernel
theorem dX11_most_5 : decode cX11_most 5 = .ok (.iload_n 1, 1) := by decide +kernel
theorem dX11_most_6 : decode cX11_most 6 = .ok (.tableswitch 83 0 6 #[42, 42, 56, 63, 68, 73, 78], 42) := by decide +kernel
theorem dX11_most_48 : decode cX11_most 48 = .ok (.aload_n 0, 1) := by decide +kernel
theorem dX11_most_49 : decode cX11_most 49 = .ok (.iload_n 1, 1) := by decide +kernel
theorem dX11_most_50 : decode cX11_most 50 = .ok (.ifCond .ne 7, 3) := by decide +kernel
theorem dX11_most_53 : decode cX11_most 53 = .ok (.iconst 1, 1) := by decide +kernel
theorem dX11_most_54 : decode cX11_most 54 = .ok (.goto 4, 3) := by decide +kernel
theorem dX11_most_57 : decode cX11_most 57 = .ok (.iconst 0, 1) := by decide +kernel
theorem dX11_most_58 : decode cX11_most 58 = .ok (.invokevirtual 475, 3) := by decide +kernel
theorem dX11_most_61 : decode cX11_most 61 = .ok (.ireturn, 1) := by decide +kernel
theorem dX11_most_62 : decode cX11_most 62 = .ok (.aload_n 0, 1) := by decide +kernel
theorem dX11_most_63 : decode cX11_most 63 = .ok (.iconst (-1), 1) := by decide +kernel
theorem dX11_most_64 : decode cX11_most 64 = .ok (.iconst 1, 1) := by decide +kernel
theorem dX11_most_65 : decode cX11_most 65 = .ok (.invokevirtual 343, 3) := by decide +kernel
theorem dX11_most_68 : decode cX11_most 68 = .ok (.ireturn, 1) := by decide +kernel
theorem dX11_most_69 : decode cX11_most 69 = .ok (.aload_n 0, 1) := by decide +kernel
theorem dX11_most_70 : decode cX11_most 70 = .ok (.invokevirtual 479, 3) := by decide +kernel
theorem dX11_most_73 : decode cX11_most 73 = .ok (.ireturn, 1) := by decide +kernel
theorem dX11_most_74 : decode cX11_most 74 = .ok (.aload_n 0, 1) := by decide +kernel
theorem dX11_most_75 : decode cX11_most 75 = .ok (.invokevirtual 482, 3) := by decide +kernel
theorem dX11_most_78 : decode cX11_most 78 = .ok (.ireturn, 1) := by decide +kernel
theorem dX11_most_79 : decode cX11_most 79 = .ok (.aload_n 0, 1) := by decide +kernel
theorem dX11_most_80 : decode cX11_most 80 = .ok (.invokevirtual 485, 3) := by decide +kernel
theorem dX11_most_83 : decode cX11_most 83 = .ok (.ireturn, 1) := by decide +kernel
theorem dX11_most_84 : decode cX11_most 84 = .ok (.aload_n 0, 1) := by decide +kernel
theorem dX11_most_85 : decode cX11_most 85 = .ok (.invokevirtual 488, 3) := by decide +kernel
theorem dX11_most_88 : decode cX11_most 88 = .ok (.ireturn, 1) := by decide +kernel
theorem dX11_most_89 : decode cX11_most 89 = .ok (.ldc_w 307, 3) := by decide +kernel
theorem dX11_most_92 : decode cX11_most 92 = .ok (.ireturn, 1) := by decide +kernel
theorem dX11_count_0 : decode cX11_count 0 = .ok (.aload_n 0, 1) := by decide +kernel
theorem dX11_count_1 : decode cX11_count 1 = .ok (.iconst 0, 1) := by decide +kernel
theorem dX11_count_2 : decode cX11_count 2 = .ok (.putfield 106, 3) := by decide +kernel
theorem dX11_count_5 : decode cX11_count 5 = .ok (.iload_n 1, 1) := by decide +kernel
theorem dX11_count_6 : decode cX11_count 6 = .ok (.ifCond .ne 10, 3) := by decide +kernel
theorem dX11_count_9 : decode cX11_count 9 = .ok (.aload_n 0, 1) := by decide +kernel
theorem dX11_count_10 : decode cX11_count 10 = .ok (.getfield 191, 3) := by decide +kernel
theorem dX11_count_13 : decode cX11_count 13 = .ok (.goto 42, 3) := by decide +kernel
theorem dX11_count_16 : decode cX11_count 16 = .ok (.iload_n 1, 1) := by decide +kernel
theorem dX11_count_17 : decode cX11_count 17 = .ok (.iconst 1, 1) := by decide +kernel
theorem dX11_count_18 : decode cX11_count 18 = .ok (.if_icmp .ne 10, 3) := by decide +kernel
theorem dX11_count_21 : decode cX11_count 21 = .ok (.aload_n 0, 1) := by decide +kernel
theorem dX11_count_22 : decode cX11_count 22 = .ok (.getfield 109, 3) := by decide +kernel
theorem dX11_count_25 : decode cX11_count 25 = .ok (.goto 30, 3) := by decide +kernel
theorem dX11_count_28 : decode cX11_count 28 = .ok (.iload_n 1, 1) := by decide +kernel
theorem dX11_count_29 : decode cX11_count 29 = .ok (.iconst 2, 1) := by decide +kernel
theorem dX11_count_30 : decode cX11_count 30 = .ok (.if_icmp .ne 10, 3) := by decide +kernel
theorem dX11_count_33 : decode cX11_count 33 = .ok (.aload_n 0, 1) := by decide +kernel
theorem dX11_count_34 : decode cX11_count 34 = .ok (.getfield 194, 3) := by decide +kernel
theorem dX11_count_37 : decode cX11_count 37 = .ok (.goto 18, 3) := by decide +kernel
theorem dX11_count_40 : decode cX11_count 40 = .ok (.iload_n 1, 1) := by decide +kernel
theorem dX11_count_41 : decode cX11_count 41 = .ok (.iconst 3, 1) := by decide +kernel
theorem dX11_count_42 : decode cX11_count 42 = .ok (.if_icmp .ne 10, 3) := by decide +kernel
theorem dX11_count_45 : decode cX11_count 45 = .ok (.aload_n 0, 1) := by decide +kernel
theorem dX11_count_46 : decode cX11_count 46 = .ok (.getfield 93, 3) := by decide +kernel
theorem dX11_count_49 : decode cX11_count 49 = .ok (.goto 6, 3) := by decide +kernel
theorem dX11_count_52 : decode cX11_count 52 = .ok (.ldc_w 307, 3) := by decide +kernel
theorem dX11_count_55 : decode cX11_count 55 = .ok (.ireturn, 1) := by decide +kernel
theorem dJ6_bitCount_0f7a4_0 : decode cJ6_bitCount_0f7a4 0 = .ok (.iload_n 0, 1) := by decide +kernel
theorem dJ6_bitCount_0f7a4_1 : decode cJ6_bitCount_0f7a4 1 = .ok (.iload_n 0, 1) := by decide +kernel
theorem dJ6_bitCount_0f7a4_2 : decode cJ6_bitCount_0f7a4 2 = .ok (.iconst 1, 1) := by decide +kernel
theorem dJ6_bitCount_0f7a4_3 : decode cJ6_bitCount_0f7a4 3 = .ok (.iushr, 1) := by decide +kernel
theorem dJ6_bitCount_0f7a4_4 : decode cJ6_bitCount_0f7a4 4 = .ok (.ldc_w 265, 3) := by decide +kernel
theorem dJ6_bitCount_0f7a4_7 : decode cJ6_bitCount_0f7a4 7 = .ok (.iand, 1) := by decide +kernel
theorem dJ6_bitCount_0f7a4_8 : decode cJ6_bitCount_0f7a4 8 = .ok (.isub, 1) := by decide +kernel
theorem dJ6_bitCount_0f7a4_9 : decode cJ6_bitCount_0f7a4 9 = .ok (.istore_n 0, 1) := by decide +kernel
theorem dJ6_bitCount_0f7a4_10 : decode cJ6_bitCount_0f7a4 10 = .ok (.iload_n 0, 1) := by decide +kernel
theorem dJ6_bitCount_0f7a4_11 : decode cJ6_bitCount_0f7a4 11 = .ok (.ldc_w 266, 3) := by decide +kernel
theorem dJ6_bitCount_0f7a4_14 : decode cJ6_bitCount_0f7a4 14 = .ok (.iand, 1) := by decide +kernel
theorem dJ6_bitCount_0f7a4_15 : decode cJ6_bitCount_0f7a4 15 = .ok (.iload_n 0, 1) := by decide +kernel
theorem dJ6_bitCount_0f7a4_16 : decode cJ6_bitCount_0f7a4 16 = .ok (.iconst 2, 1) := by decide +kernel
theorem dJ6_bitCount_0f7a4_17 : decode cJ6_bitCount_0f7a4 17 = .ok (.iushr, 1) := by decide +kernel
theorem dJ6_bitCount_0f7a4_18 : decode cJ6_bitCount_0f7a4 18 = .ok (.ldc_w 266, 3) := by decide +kernel
theorem dJ6_bitCount_0f7a4_21 : decode cJ6_bitCount_0f7a4 21 = .ok (.iand, 1) := by decide +kernel
theorem dJ6_bitCount_0f7a4_22 : decode cJ6_bitCount_0f7a4 22 = .ok (.iadd, 1) := by decide +kernel
theorem dJ6_bitCount_0f7a4_23 : decode cJ6_bitCount_0f7a4 23 = .ok (.istore_n 0, 1) := by decide +kernel
theorem dJ6_bitCount_0f7a4_24 : decode cJ6_bitCount_0f7a4 24 = .ok (.iload_n 0, 1) := by decide +kernel
theorem dJ6_bitCount_0f7a4_25 : decode cJ6_bitCount_0f7a4 25 = .ok (.iload_n 0, 1) := by decide +kernel
theorem dJ6_bitCount_0f7a4_26 : decode cJ6_bitCount_0f7a4 26 = .ok (.iconst 4, 1) := by decide +kernel
theorem dJ6_bitCount_0f7a4_27 : decode cJ6_bitCount_0f7a4 27 = .ok (.iushr, 1) := by decide +kernel
theorem dJ6_bitCount_0f7a4_28 : decode cJ6_bitCount_0f7a4 28 = .ok (.iadd, 1) := by decide +kernel
theorem dJ6_bitCount_0f7a4_29 : decode cJ6_bitCount_0f7a4 29 = .ok (.ldc_w 267, 3) := by decide +kernel
theorem dJ6_bitCount_0f7a4_32 : decode cJ6_bitCount_0f7a4 32 = .ok (.iand, 1) := by decide +kernel
theorem dJ6_bitCount_0f7a4_33 : decode cJ6_bitCount_0f7a4 33 = .ok (.istore_n 0, 1) := by decide +kernel
theorem dJ6_bitCount_0f7a4_34 : decode cJ6_bitCount_0f7a4 34 = .ok (.iload_n 0, 1) := by decide +kernel
theorem dJ6_bitCount_0f7a4_35 : decode cJ6_bitCount_0f7a4 35 = .ok (.iload_n 0, 1) := by decide +kernel
theorem dJ6_bitCount_0f7a4_36 : decode cJ6_bitCount_0f7a4 36 = .ok (.bipush 8, 2) := by decide +kernel
theorem dJ6_bitCount_0f7a4_38 : decode cJ6_bitCount_0f7a4 38 = .ok (.iushr, 1) := by decide +kernel
theorem dJ6_bitCount_0f7a4_39 : decode cJ6_bitCount_0f7a4 39 = .ok (.iadd, 1) := by decide +kernel
theorem dJ6_bitCount_0f7a4_40 : decode cJ6_bitCount_0f7a4 40 = .ok (.istore_n 0, 1) := by decide +kernel
theorem dJ6_bitCount_0f7a4_41 : decode cJ6_bitCount_0f7a4 41 = .ok (.iload_n 0, 1) := by decide +kernel
theorem dJ6_bitCount_0f7a4_42 : decode cJ6_bitCount_0f7a4 42 = .ok (.iload_n 0, 1) := by decide +kernel
theorem dJ6_bitCount_0f7a4_43 : decode cJ6_bitCount_0f7a4 43 = .ok (.bipush 16, 2) := by decide +kernel
theorem dJ6_bitCount_0f7a4_45 : decode cJ6_bitCount_0f7a4 45 = .ok (.iushr, 1) := by decide +kernel
theorem dJ6_bitCount_0f7a4_46 : decode cJ6_bitCount_0f7a4 46 = .ok (.iadd, 1) := by decide +kernel
theorem dJ6_bitCount_0f7a4_47 : decode cJ6_bitCount_0f7a4 47 = .ok (.istore_n 0, 1) := by decide +kernel
theorem dJ6_bitCount_0f7a4_48 : decode cJ6_bitCount_0f7a4 48 = .ok (.iload_n 0, 1) := by decide +kernel
theorem dJ6_bitCount_0f7a4_49 : decode cJ6_bitCount_0f7a4 49 = .ok (.bipush 63, 2) := by decide +kernel
theorem dJ6_bitCount_0f7a4_51 : decode cJ6_bitCount_0f7a4 51 = .ok (.iand, 1) := by decide +kernel
theorem dJ6_bitCount_0f7a4_52 : decode cJ6_bitCount_0f7a4 52 = .ok (.ireturn, 1) := by decide +kernel
theorem dJ7_rangeCheck_23922_0 : decode cJ7_rangeCheck_23922 0 = .ok (.iload_n 1, 1) := by decide +kernel
theorem dJ7_rangeCheck_23922_1 : decode cJ7_rangeCheck_23922 1 = .ok (.iload_n 2, 1) := by decide +kernel
theorem dJ7_rangeCheck_23922_2 : decode cJ7_rangeCheck_23922 2 = .ok (.if_icmp .le 44, 3) := by decide +kernel
theorem dJ7_rangeCheck_23922_5 : decode cJ7_rangeCheck_23922 5 = .ok (.new 43, 3) := by decide +kernel
theorem dJ7_rangeCheck_23922_8 : decode cJ7_rangeCheck_23922 8 = .ok (.dup, 1) := by decide +kernel
theorem dJ7_rangeCheck_23922_9 : decode cJ7_rangeCheck_23922 9 = .ok (.new 45, 3) := by decide +kernel
theorem dJ7_rangeCheck_23922_12 : decode cJ7_rangeCheck_23922 12 = .ok (.dup, 1) := by decide +kernel
theorem dJ7_rangeCheck_23922_13 : decode cJ7_rangeCheck_23922 13 = .ok (.invokespecial 47, 3) := by decide +kernel
theorem dJ7_rangeCheck_23922_16 : decode cJ7_rangeCheck_23922 16 = .ok (.ldc 48, 2) := by decide +kernel
theorem dJ7_rangeCheck_23922_18 : decode cJ7_rangeCheck_23922 18 = .ok (.invokevirtual 50, 3) := by decide +kernel
theorem dJ7_rangeCheck_23922_21 : decode cJ7_rangeCheck_23922 21 = .ok (.iload_n 1, 1) := by decide +kernel
theorem dJ7_rangeCheck_23922_22 : decode cJ7_rangeCheck_23922 22 = .ok (.invokevirtual 54, 3) := by decide +kernel
theorem dJ7_rangeCheck_23922_25 : decode cJ7_rangeCheck_23922 25 = .ok (.ldc 57, 2) := by decide +kernel
theorem dJ7_rangeCheck_23922_27 : decode cJ7_rangeCheck_23922 27 = .ok (.invokevirtual 50, 3) := by decide +kernel
theorem dJ7_rangeCheck_23922_30 : decode cJ7_rangeCheck_23922 30 = .ok (.iload_n 2, 1) := by decide +kernel
theorem dJ7_rangeCheck_23922_31 : decode cJ7_rangeCheck_23922 31 = .ok (.invokevirtual 54, 3) := by decide +kernel
theorem dJ7_rangeCheck_23922_34 : decode cJ7_rangeCheck_23922 34 = .ok (.ldc 59, 2) := by decide +kernel
theorem dJ7_rangeCheck_23922_36 : decode cJ7_rangeCheck_23922 36 = .ok (.invokevirtual 50, 3) := by decide +kernel
theorem dJ7_rangeCheck_23922_39 : decode cJ7_rangeCheck_23922 39 = .ok (.invokevirtual 61, 3) := by decide +kernel
theorem dJ7_rangeCheck_23922_42 : decode cJ7_rangeCheck_23922 42 = .ok (.invokespecial 65, 3) := by decide +kernel
theorem dJ7_rangeCheck_23922_45 : decode cJ7_rangeCheck_23922 45 = .ok (.athrow, 1) := by decide +kernel
theorem dJ7_rangeCheck_23922_46 : decode cJ7_rangeCheck_23922 46 = .ok (.iload_n 1, 1) := by decide +kernel
theorem dJ7_rangeCheck_23922_47 : decode cJ7_rangeCheck_23922 47 = .ok (.ifCond .ge 12, 3) := by decide +kernel
theorem dJ7_rangeCheck_23922_50 : decode cJ7_rangeCheck_23922 50 = .ok (.new 68, 3) := by decide +kernel
theorem dJ7_rangeCheck_23922_53 : decode cJ7_rangeCheck_23922 53 = .ok (.dup, 1) := by decide +kernel
theorem dJ7_rangeCheck_23922_54 : decode cJ7_rangeCheck_23922 54 = .ok (.iload_n 1, 1) := by decide +kernel
theorem dJ7_rangeCheck_23922_55 : decode cJ7_rangeCheck_23922 55 = .ok (.invokespecial 70, 3) := by decide +kernel
theorem dJ7_rangeCheck_23922_58 : decode cJ7_rangeCheck_23922 58 = .ok (.athrow, 1) := by decide +kernel
theorem dJ7_rangeCheck_23922_59 : decode cJ7_rangeCheck_23922 59 = .ok (.iload_n 2, 1) := by decide +kernel
theorem dJ7_rangeCheck_23922_60 : decode cJ7_rangeCheck_23922 60 = .ok (.iload_n 0, 1) := by decide +kernel
theorem dJ7_rangeCheck_23922_61 : decode cJ7_rangeCheck_23922 61 = .ok (.if_icmp .le 12, 3) := by decide +kernel
theorem dJ7_rangeCheck_23922_64 : decode cJ7_rangeCheck_23922 64 = .ok (.new 68, 3) := by decide +kernel
theorem dJ7_rangeCheck_23922_67 : decode cJ7_rangeCheck_23922 67 = .ok (.dup, 1) := by decide +kernel
theorem dJ7_rangeCheck_23922_68 : decode cJ7_rangeCheck_23922 68 = .ok (.iload_n 2, 1) := by decide +kernel
theorem dJ7_rangeCheck_23922_69 : decode cJ7_rangeCheck_23922 69 = .ok (.invokespecial 70, 3) := by decide +kernel
theorem dJ7_rangeCheck_23922_72 : decode cJ7_rangeCheck_23922 72 = .ok (.athrow, 1) := by decide +kernel
theorem dJ7_rangeCheck_23922_73 : decode cJ7_rangeCheck_23922 73 = .ok (.return_, 1) := by decide +kernel
theorem dJ7_fill_d0a16_0 : decode cJ7_fill_d0a16 0 = .ok (.iconst 0, 1) := by decide +kernel
theorem dJ7_fill_d0a16_1 : decode cJ7_fill_d0a16 1 = .ok (.istore_n 3, 1) := by decide +kernel
theorem dJ7_fill_d0a16_2 : decode cJ7_fill_d0a16 2 = .ok (.aload_n 0, 1) := by decide +kernel
theorem dJ7_fill_d0a16_3 : decode cJ7_fill_d0a16 3 = .ok (.arraylength, 1) := by decide +kernel
theorem dJ7_fill_d0a16_4 : decode cJ7_fill_d0a16 4 = .ok (.istore 4, 2) := by decide +kernel
theorem dJ7_fill_d0a16_6 : decode cJ7_fill_d0a16 6 = .ok (.iload_n 3, 1) := by decide +kernel
theorem dJ7_fill_d0a16_7 : decode cJ7_fill_d0a16 7 = .ok (.iload 4, 2) := by decide +kernel
theorem dJ7_fill_d0a16_9 : decode cJ7_fill_d0a16 9 = .ok (.if_icmp .ge 13, 3) := by decide +kernel
theorem dJ7_fill_d0a16_12 : decode cJ7_fill_d0a16 12 = .ok (.aload_n 0, 1) := by decide +kernel
theorem dJ7_fill_d0a16_13 : decode cJ7_fill_d0a16 13 = .ok (.iload_n 3, 1) := by decide +kernel
theorem dJ7_fill_d0a16_14 : decode cJ7_fill_d0a16 14 = .ok (.lload_n 1, 1) := by decide +kernel
theorem dJ7_fill_d0a16_15 : decode cJ7_fill_d0a16 15 = .ok (.lastore, 1) := by decide +kernel
theorem dJ7_fill_d0a16_16 : decode cJ7_fill_d0a16 16 = .ok (.iinc 3 1, 3) := by decide +kernel
theorem dJ7_fill_d0a16_19 : decode cJ7_fill_d0a16 19 = .ok (.goto (-13), 3) := by decide +kernel
theorem dJ7_fill_d0a16_22 : decode cJ7_fill_d0a16 22 = .ok (.return_, 1) := by decide +kernel
theorem dJ7_fill_53178_0 : decode cJ7_fill_53178 0 = .ok (.iconst 0, 1) := by decide +kernel
theorem dJ7_fill_53178_1 : decode cJ7_fill_53178 1 = .ok (.istore_n 2, 1) := by decide +kernel
theorem dJ7_fill_53178_2 : decode cJ7_fill_53178 2 = .ok (.aload_n 0, 1) := by decide +kernel
theorem dJ7_fill_53178_3 : decode cJ7_fill_53178 3 = .ok (.arraylength, 1) := by decide +kernel
theorem dJ7_fill_53178_4 : decode cJ7_fill_53178 4 = .ok (.istore_n 3, 1) := by decide +kernel
theorem dJ7_fill_53178_5 : decode cJ7_fill_53178 5 = .ok (.iload_n 2, 1) := by decide +kernel
theorem dJ7_fill_53178_6 : decode cJ7_fill_53178 6 = .ok (.iload_n 3, 1) := by decide +kernel
theorem dJ7_fill_53178_7 : decode cJ7_fill_53178 7 = .ok (.if_icmp .ge 13, 3) := by decide +kernel
theorem dJ7_fill_53178_10 : decode cJ7_fill_53178 10 = .ok (.aload_n 0, 1) := by decide +kernel
theorem dJ7_fill_53178_11 : decode cJ7_fill_53178 11 = .ok (.iload_n 2, 1) := by decide +kernel
theorem dJ7_fill_53178_12 : decode cJ7_fill_53178 12 = .ok (.iload_n 1, 1) := by decide +kernel
theorem dJ7_fill_53178_13 : decode cJ7_fill_53178 13 = .ok (.iastore, 1) := by decide +kernel
theorem dJ7_fill_53178_14 : decode cJ7_fill_53178 14 = .ok (.iinc 2 1, 3) := by decide +kernel
theorem dJ7_fill_53178_17 : decode cJ7_fill_53178 17 = .ok (.goto (-12), 3) := by decide +kernel
theorem dJ7_fill_53178_20 : decode cJ7_fill_53178 20 = .ok (.return_, 1) := by decide +kernel
set_option maxRecDepth 20000 in
theorem ggJ7_fill_fda19_J7_rangeCheck_23922 : GoodIn wsJ7_fill_fda19 wsJ7_rangeCheck_23922 := goodIn_r _ [4] (by decide +kernel) (by decide +kernel)
set_option maxRecDepth 20000 in
theorem gJ7_fill_fda19_J7_rangeCheck_23922 : GoodIn wsJ7_fill_fda19 (va_wsS RJ7 13 yJ7_rangeCheck_23922 wsJ7_rangeCheck_23922) := goodIn_app (goodIn_of _ (by decide +kernel)) ggJ7_fill_fda19_J7_rangeCheck_23922
theorem dJ7_fill_fda19_0 : decode cJ7_fill_fda19 0 = .ok (.aload_n 0, 1) := by decide +kernel
theorem dJ7_fill_fda19_1 : decode cJ7_fill_fda19 1 = .ok (.arraylength, 1) := by decide +kernel
theorem dJ7_fill_fda19_2 : decode cJ7_fill_fda19 2 = .ok (.iload_n 1, 1) := by decide +kernel
theorem dJ7_fill_fda19_3 : decode cJ7_fill_fda19 3 = .ok (.iload_n 2, 1) := by decide +kernel
theorem dJ7_fill_fda19_4 : decode cJ7_fill_fda19 4 = .ok (.invokestatic 13, 3) := by decide +kernel
theorem dJ7_fill_fda19_7 : decode cJ7_fill_fda19 7 = .ok (.iload_n 1, 1) := by decide +kernel
theorem dJ7_fill_fda19_8 : decode cJ7_fill_fda19 8 = .ok (.istore 4, 2) := by decide +kernel
theorem dJ7_fill_fda19_10 : decode cJ7_fill_fda19 10 = .ok (.iload 4, 2) := by decide +kernel
theorem dJ7_fill_fda19_12 : decode cJ7_fill_fda19 12 = .ok (.iload_n 2, 1) := by decide +kernel
theorem dJ7_fill_fda19_13 : decode cJ7_fill_fda19 13 = .ok (.if_icmp .ge 14, 3) := by decide +kernel
theorem dJ7_fill_fda19_16 : decode cJ7_fill_fda19 16 = .ok (.aload_n 0, 1) := by decide +kernel
theorem dJ7_fill_fda19_17 : decode cJ7_fill_fda19 17 = .ok (.iload 4, 2) := by decide +kernel
theorem dJ7_fill_fda19_19 : decode cJ7_fill_fda19 19 = .ok (.iload_n 3, 1) := by decide +kernel
theorem dJ7_fill_fda19_20 : decode cJ7_fill_fda19 20 = .ok (.iastore, 1) := by decide +kernel
theorem dJ7_fill_fda19_21 : decode cJ7_fill_fda19 21 = .ok (.iinc 4 1, 3) := by decide +kernel
theorem dJ7_fill_fda19_24 : decode cJ7_fill_fda19 24 = .ok (.goto (-14), 3) := by decide +kernel
theorem dJ7_fill_fda19_27 : decode cJ7_fill_fda19 27 = .ok (.return_, 1) := by decide +kernel
theorem dJ7_copyOf_59c91_0 : decode cJ7_copyOf_59c91 0 = .ok (.iload_n 1, 1) := by decide +kernel
theorem dJ7_copyOf_59c91_1 : decode cJ7_copyOf_59c91 1 = .ok (.aload_n 0, 1) := by decide +kernel
theorem dJ7_copyOf_59c91_2 : decode cJ7_copyOf_59c91 2 = .ok (.arraylength, 1) := by decide +kernel
theorem dJ7_copyOf_59c91_3 : decode cJ7_copyOf_59c91 3 = .ok (.if_icmp .ne 11, 3) := by decide +kernel
theorem dJ7_copyOf_59c91_6 : decode cJ7_copyOf_59c91 6 = .ok (.aload_n 0, 1) := by decide +kernel
theorem dJ7_copyOf_59c91_7 : decode cJ7_copyOf_59c91 7 = .ok (.invokevirtual 316, 3) := by decide +kernel
theorem dJ7_copyOf_59c91_10 : decode cJ7_copyOf_59c91 10 = .ok (.checkcast 317, 3) := by decide +kernel
theorem dJ7_copyOf_59c91_13 : decode cJ7_copyOf_59c91 13 = .ok (.areturn, 1) := by decide +kernel
theorem dJ7_copyOf_59c91_14 : decode cJ7_copyOf_59c91 14 = .ok (.iload_n 1, 1) := by decide +kernel
theorem dJ7_copyOf_59c91_15 : decode cJ7_copyOf_59c91 15 = .ok (.newarray .int, 2) := by decide +kernel
theorem dJ7_copyOf_59c91_17 : decode cJ7_copyOf_59c91 17 = .ok (.astore_n 2, 1) := by decide +kernel
theorem dJ7_copyOf_59c91_18 : decode cJ7_copyOf_59c91 18 = .ok (.aload_n 0, 1) := by decide +kernel
theorem dJ7_copyOf_59c91_19 : decode cJ7_copyOf_59c91 19 = .ok (.iconst 0, 1) := by decide +kernel
theorem dJ7_copyOf_59c91_20 : decode cJ7_copyOf_59c91 20 = .ok (.aload_n 2, 1) := by decide +kernel
theorem dJ7_copyOf_59c91_21 : decode cJ7_copyOf_59c91 21 = .ok (.iconst 0, 1) := by decide +kernel
theorem dJ7_copyOf_59c91_22 : decode cJ7_copyOf_59c91 22 = .ok (.aload_n 0, 1) := by decide +kernel
theorem dJ7_copyOf_59c91_23 : decode cJ7_copyOf_59c91 23 = .ok (.arraylength, 1) := by decide +kernel
theorem dJ7_copyOf_59c91_24 : decode cJ7_copyOf_59c91 24 = .ok (.iload_n 1, 1) := by decide +kernel
theorem dJ7_copyOf_59c91_25 : decode cJ7_copyOf_59c91 25 = .ok (.invokestatic 304, 3) := by decide +kernel
theorem dJ7_copyOf_59c91_28 : decode cJ7_copyOf_59c91 28 = .ok (.invokestatic 150, 3) := by decide +kernel
theorem dJ7_copyOf_59c91_31 : decode cJ7_copyOf_59c91 31 = .ok (.aload_n 2, 1) := by decide +kernel
theorem dJ7_copyOf_59c91_32 : decode cJ7_copyOf_59c91 32 = .ok (.areturn, 1) := by decide +kernel
set_option maxRecDepth 20000 in
theorem ggL_tet_X10_tet : GoodIn wsL_tet wsX10_tet := goodIn_ca (goodIn_r _ [6, 7, 8, 9, 10, 11, 12, 13, 14, 15, 16, 17, 18, 19, 20, 21, 22, 23, 24, 25, 26, 27, 28, 29, 30, 31, 32, 33, 34, 35, 36] (by decide +kernel) (by decide +kernel)) (goodIn_sub (fun _ h => List.mem_cons_of_mem _ (List.mem_append_right _ h)) (by decide +kernel))
set_option maxRecDepth 20000 in
theorem gL_tet_X10_tet : GoodIn wsL_tet (wsV RL 7 RX10 yX10_tet wsX10_tet) := goodIn_app (goodIn_of _ (by decide +kernel)) ggL_tet_X10_tet
theorem dL_tet_0 : decode cL_tet 0 = .ok (.aload_n 3, 1) := by decide +kernel
theorem dL_tet_1 : decode cL_tet 1 = .ok (.iconst 0, 1) := by decide +kernel
theorem dL_tet_2 : decode cL_tet 2 = .ok (.aload_n 0, 1) := by decide +kernel
theorem dL_tet_3 : decode cL_tet 3 = .ok (.iload_n 1, 1) := by decide +kernel
theorem dL_tet_4 : decode cL_tet 4 = .ok (.iload_n 2, 1) := by decide +kernel
theorem dL_tet_5 : decode cL_tet 5 = .ok (.invokevirtual 7, 3) := by decide +kernel
theorem dL_tet_8 : decode cL_tet 8 = .ok (.i2l, 1) := by decide +kernel
theorem dL_tet_9 : decode cL_tet 9 = .ok (.lastore, 1) := by decide +kernel
theorem dL_tet_10 : decode cL_tet 10 = .ok (.goto 7, 3) := by decide +kernel
theorem dL_tet_13 : decode cL_tet 13 = .ok (.astore 4, 2) := by decide +kernel
theorem dL_tet_15 : decode cL_tet 15 = .ok (.iconst 1, 1) := by decide +kernel
theorem dL_tet_16 : decode cL_tet 16 = .ok (.ireturn, 1) := by decide +kernel
theorem dL_tet_17 : decode cL_tet 17 = .ok (.iconst 0, 1) := by decide +kernel
theorem dL_tet_18 : decode cL_tet 18 = .ok (.ireturn, 1) := by decide +kernel
set_option maxRecDepth 20000 in
theorem ggL_law_X10_init : GoodIn wsL_law wsX10_init := goodIn_r _ [9, 10, 11, 12, 13, 14, 15, 16, 17, 18, 19, 20, 21, 22, 23, 24, 25, 26, 27, 28, 29, 30, 31, 32, 33, 34, 35, 36, 37, 38, 39, 40, 41, 42, 43, 44, 45, 46, 47, 48, 49, 50, 51, 52, 53, 54, 55, 56, 57, 58, 59, 60, 61, 62, 63, 64, 65, 66, 67, 68, 69, 70, 71, 72, 73, 74, 75, 76, 77, 78, 79, 80, 81, 82, 83, 84, 85, 86, 87, 88, 89, 90, 91, 92, 93, 94, 95, 96, 97, 98, 99, 6, 100, 101, 102, 103, 104, 105, 106, 107, 108, 109, 110, 111, 112, 113, 114, 115, 116, 117, 118, 119, 120, 121, 122, 123, 124, 125, 126, 127, 1482, 1483, 1417, 1418, 1419, 1420, 1421, 1422, 1423, 1424, 1425, 1426, 1427, 1428, 1429, 1484, 1485, 1486, 1487, 1488, 1489, 1490, 1491, 1492, 1493, 1494, 1495, 1496, 1497, 1498, 1499, 1500, 1501, 1502, 1503, 1504, 1505, 1506, 1507, 1508, 1509, 1510, 1511, 1512, 1513, 1514, 1515, 1516, 1517, 1518, 1519, 1520, 1521, 1522, 1523, 1524, 1525, 1526, 1527, 1528, 1529, 1530, 1531, 1532, 1533, 1534, 1535, 1536, 1537, 1538, 1539, 1540, 1541, 1542, 1543] (by decide +kernel) (by decide +kernel)
set_option maxRecDepth 20000 in
theorem gL_law_X10_init : GoodIn wsL_law (wsX10_init) := ggL_law_X10_init
set_option maxRecDepth 20000 in
theorem ggL_law_X11_init : GoodIn wsL_law wsX11_init := goodIn_r _ [130, 131, 11, 12, 59, 132, 54, 133, 134, 135, 136, 137, 138, 139, 140, 141, 142, 143, 144, 145, 146, 147, 148, 149, 150, 151, 6, 152, 153, 154, 155, 156, 157, 158, 159, 160, 161, 162, 1430, 1431, 1432, 1433, 1434, 1435, 1436, 1437, 1438, 1439, 1440, 1441, 1442, 1443, 1444, 1445, 1446, 1447, 1448, 1449, 1450, 1451, 1452, 1453, 1454, 1455, 1456, 1457, 1458, 1459, 1460, 1461, 1462, 1463, 1464, 1465, 1466, 1467, 1468, 1469, 1470, 1471, 1472, 1473, 1474, 1475, 1476, 1477, 1478, 1479, 1480, 1481] (by decide +kernel) (by decide +kernel)
set_option maxRecDepth 20000 in
theorem gL_law_X11_init : GoodIn wsL_law (wsX11_init) := ggL_law_X11_init
set_option maxRecDepth 20000 in
theorem ggL_law_X10_feed : GoodIn wsL_law wsX10_feed := goodIn_r _ [166, 16, 167, 168, 169, 15, 170, 171, 172, 173, 174, 175, 60, 1417, 1418, 1419, 1420, 1421, 1422, 1423, 1424, 1425, 1426, 1427, 1428, 1429, 1482, 1483] (by decide +kernel) (by decide +kernel)
set_option maxRecDepth 20000 in
theorem gL_law_X10_feed : GoodIn wsL_law (wsV RL 19 RX10 yX10_feed wsX10_feed) := goodIn_app (goodIn_of _ (by decide +kernel)) ggL_law_X10_feed
set_option maxRecDepth 20000 in
theorem ggL_law_X11_feed : GoodIn wsL_law wsX11_feed := goodIn_r _ [179, 180, 181, 182, 183, 5, 184, 185, 186, 187, 188, 132, 1430, 1431, 1432, 1433, 1434, 1435, 1436, 1437, 1438, 1439, 1440, 1441, 1442, 1443, 1444, 1445, 1446, 1447, 1448, 1449, 1450, 1451, 1452, 1453, 1454, 1455, 1456, 1457, 1458, 1459, 1460, 1461, 1462, 1463, 1464, 1465, 1466, 1467, 1468, 1469, 1470, 1471, 1472, 1473, 1474, 1475, 1476, 1477, 1478, 1479, 1480, 1481] (by decide +kernel) (by decide +kernel)
set_option maxRecDepth 20000 in
theorem gL_law_X11_feed : GoodIn wsL_law (wsV RL 23 RX11 yX11_feed wsX11_feed) := goodIn_app (goodIn_of _ (by decide +kernel)) ggL_law_X11_feed
set_option maxRecDepth 20000 in
theorem ggL_law_X10_end : GoodIn wsL_law wsX10_end := goodIn_r _ [192, 16, 167, 1417, 1418, 1419, 1420, 1421, 1422, 1423, 1424, 1425, 1426, 1427, 1428, 1429, 1482, 1483] (by decide +kernel) (by decide +kernel)
set_option maxRecDepth 20000 in
theorem gL_law_X10_end : GoodIn wsL_law (wsV RL 24 RX10 yX10_end wsX10_end) := goodIn_app (goodIn_of _ (by decide +kernel)) ggL_law_X10_end
set_option maxRecDepth 20000 in
theorem ggL_law_X11_end : GoodIn wsL_law wsX11_end := goodIn_r _ [196, 180, 181, 1430, 1431, 1432, 1433, 1434, 1435, 1436, 1437, 1438, 1439, 1440, 1441, 1442, 1443, 1444, 1445, 1446, 1447, 1448, 1449, 1450, 1451, 1452, 1453, 1454, 1455, 1456, 1457, 1458, 1459, 1460, 1461, 1462, 1463, 1464, 1465, 1466, 1467, 1468, 1469, 1470, 1471, 1472, 1473, 1474, 1475, 1476, 1477, 1478, 1479, 1480, 1481] (by decide +kernel) (by decide +kernel)
set_option maxRecDepth 20000 in
theorem gL_law_X11_end : GoodIn wsL_law (wsV RL 28 RX11 yX11_end wsX11_end) := goodIn_app (goodIn_of _ (by decide +kernel)) ggL_law_X11_end
set_option maxRecDepth 20000 in
theorem ggL_law_X10_fault : GoodIn wsL_law wsX10_fault := goodIn_r _ [200, 20, 201, 202, 203, 19, 204, 205, 206, 207, 208, 209, 210, 211, 212, 213, 214, 215, 216, 217, 218, 219, 220, 221, 222, 223, 224, 225, 66, 226, 227, 228, 229, 230, 231, 232, 233, 234, 235, 236, 237, 238, 239, 240, 241, 242, 243, 244, 245, 246, 247, 248, 249, 250, 251, 65, 252, 253, 254, 255, 256, 257, 258, 259, 260, 261, 262, 263, 1417, 1418, 1419, 1420, 1421, 1422, 1423, 1424, 1425, 1426, 1427, 1428, 1429, 1484, 1485, 1486, 1487, 1488, 1489, 1490, 1482, 1483] (by decide +kernel) (by decide +kernel)
set_option maxRecDepth 20000 in
theorem gL_law_X10_fault : GoodIn wsL_law (wsV RL 29 RX10 yX10_fault wsX10_fault) := goodIn_app (goodIn_of _ (by decide +kernel)) ggL_law_X10_fault
set_option maxRecDepth 20000 in
theorem ggL_law_X11_fault : GoodIn wsL_law wsX11_fault := goodIn_r _ [267, 180, 268, 269, 270, 271, 272, 5, 273, 274, 275, 276, 277, 278, 279, 280, 281, 282, 283, 284, 285, 286, 287, 288, 181, 132, 289, 290, 291, 292, 293, 294, 295, 296, 297, 298, 299, 300, 301, 302, 303, 304, 305, 306, 307, 308, 309, 310, 311, 312, 313, 314, 315, 316, 133, 317, 318, 319, 320, 321, 322, 323, 324, 325, 326, 327, 328, 329, 330, 331, 332, 333, 134, 334, 335, 336, 337, 338, 339, 340, 341, 342, 343, 344, 345, 346, 347, 348, 349, 350, 351, 352, 353, 354, 355, 356, 357, 358, 359, 360, 361, 362, 363, 364, 365, 366, 367, 368, 369, 370, 371, 372, 373, 374, 1430, 1431, 1432, 1433, 1434, 1435, 1436, 1437, 1438, 1439, 1440, 1441, 1442, 1443, 1444, 1445, 1446, 1447, 1448, 1449, 1450, 1451, 1452, 1453, 1454, 1455, 1456, 1457, 1458, 1459, 1460, 1461, 1462, 1463, 1464, 1465, 1466, 1467, 1468, 1469, 1470, 1471, 1472, 1473, 1474, 1475, 1476, 1477, 1478, 1479, 1480, 1481] (by decide +kernel) (by decide +kernel)
set_option maxRecDepth 20000 in
theorem gL_law_X11_fault : GoodIn wsL_law (wsV RL 33 RX11 yX11_fault wsX11_fault) := goodIn_app (goodIn_of _ (by decide +kernel)) ggL_law_X11_fault
set_option maxRecDepth 20000 in
theorem ggL_law_X10_text : GoodIn wsL_law wsX10_text := goodIn_r _ [378, 20, 24, 379, 36, 28, 16, 167, 201, 202, 203, 19, 204, 205, 206, 207, 208, 209, 210, 211, 212, 213, 214, 215, 216, 217, 218, 219, 220, 221, 222, 223, 224, 225, 66, 226, 227, 228, 229, 230, 231, 232, 233, 234, 235, 236, 237, 238, 239, 240, 241, 242, 243, 244, 245, 246, 247, 248, 249, 250, 251, 65, 252, 253, 254, 255, 256, 257, 258, 259, 260, 261, 262, 263, 380, 381, 382, 35, 383, 384, 385, 386, 387, 2, 388, 389, 37, 390, 391, 392, 393, 394, 27, 395, 396, 397, 79, 398, 399, 400, 401, 80, 402, 403, 404, 405, 23, 406, 407, 408, 409, 410, 411, 70, 412, 71, 72, 413, 414, 415, 416, 417, 418, 419, 420, 421, 422, 423, 424, 425, 426, 427, 428, 429, 430, 431, 432, 433, 434, 435, 436, 437, 438, 439, 440, 441, 442, 443, 444, 445, 446, 447, 448, 449, 32, 450, 451, 452, 453, 454, 455, 456, 457, 458, 459, 31, 460, 86, 87, 88, 461, 462, 463, 464, 465, 466, 467, 468, 469, 470, 471, 472, 473, 474, 475, 476, 477, 478, 479, 480, 481, 482, 483, 484, 485, 486, 487, 488, 489, 490, 491, 492, 493, 494, 495, 496, 497, 498, 499, 500, 501, 502, 503, 504, 505, 506, 84, 85, 507, 508, 509, 510, 511, 512, 513, 514, 515, 516, 517, 518, 519, 520, 521, 522, 94, 523, 524, 525, 526, 92, 93, 527, 528, 529, 530, 531, 532, 533, 534, 535, 536, 537, 538, 539, 540, 541, 542, 543, 544, 54, 545, 546, 547, 548, 549, 550, 551, 552, 553, 554, 555, 556, 557, 558, 559, 560, 561, 562, 563, 564, 565, 566, 1417, 1418, 1419, 1420, 1421, 1422, 1423, 1424, 1425, 1426, 1427, 1428, 1429, 1491, 1492, 1493, 1494, 1495, 1496, 1482, 1483, 1484, 1485, 1486, 1487, 1488, 1489, 1490, 1512, 1513, 1514, 1515, 1497, 1498, 1499, 1500, 1501, 1502, 1503, 1504, 1505, 1506, 1507, 1508, 1509, 1510, 1511] (by decide +kernel) (by decide +kernel)
set_option maxRecDepth 20000 in
theorem gL_law_X10_text : GoodIn wsL_law (wsV RL 34 RX10 yX10_text wsX10_text) := goodIn_app (goodIn_of _ (by decide +kernel)) ggL_law_X10_text
set_option maxRecDepth 20000 in
theorem ggL_law_X11_text : GoodIn wsL_law wsX11_text := goodIn_r _ [570, 180, 268, 269, 333, 571, 280, 181, 270, 271, 272, 5, 273, 274, 275, 276, 277, 278, 279, 281, 282, 283, 284, 285, 286, 287, 288, 132, 289, 290, 291, 292, 293, 294, 295, 296, 297, 298, 299, 300, 301, 302, 303, 304, 305, 306, 307, 308, 309, 310, 311, 312, 313, 314, 315, 316, 133, 317, 318, 319, 320, 321, 322, 323, 324, 325, 326, 327, 328, 329, 330, 331, 332, 134, 334, 335, 336, 337, 338, 339, 340, 341, 342, 343, 344, 345, 346, 347, 348, 349, 350, 351, 352, 353, 354, 355, 356, 357, 358, 359, 360, 361, 362, 363, 364, 365, 366, 367, 368, 369, 370, 371, 372, 373, 374, 1430, 1431, 1432, 1433, 1434, 1435, 1436, 1437, 1438, 1439, 1440, 1441, 1442, 1443, 1444, 1445, 1446, 1447, 1448, 1449, 1450, 1451, 1452, 1453, 1454, 1455, 1456, 1457, 1458, 1459, 1460, 1461, 1462, 1463, 1464, 1465, 1466, 1467, 1468, 1469, 1470, 1471, 1472, 1473, 1474, 1475, 1476, 1477, 1478, 1479, 1480, 1481] (by decide +kernel) (by decide +kernel)
set_option maxRecDepth 20000 in
theorem gL_law_X11_text : GoodIn wsL_law (wsV RL 37 RX11 yX11_text wsX11_text) := goodIn_app (goodIn_of _ (by decide +kernel)) ggL_law_X11_text
set_option maxRecDepth 20000 in
theorem ggL_law_X10_count : GoodIn wsL_law wsX10_count := goodIn_r _ [575, 24, 379, 16, 167, 389, 53, 576, 577, 1417, 1418, 1419, 1420, 1421, 1422, 1423, 1424, 1425, 1426, 1427, 1428, 1429, 1491, 1492, 1493, 1494, 1495, 1496, 1482, 1483, 1534, 1535, 1536, 1537, 1538, 1539, 1540, 1541, 1542, 1543] (by decide +kernel) (by decide +kernel)
set_option maxRecDepth 20000 in
theorem gL_law_X10_count : GoodIn wsL_law (wsV RL 38 RX10 yX10_count wsX10_count) := goodIn_app (goodIn_of _ (by decide +kernel)) ggL_law_X10_count
set_option maxRecDepth 20000 in
theorem ggL_law_X11_count : GoodIn wsL_law wsX11_count := goodIn_r _ [581, 180, 333, 181, 571, 159, 582, 1430, 1431, 1432, 1433, 1434, 1435, 1436, 1437, 1438, 1439, 1440, 1441, 1442, 1443, 1444, 1445, 1446, 1447, 1448, 1449, 1450, 1451, 1452, 1453, 1454, 1455, 1456, 1457, 1458, 1459, 1460, 1461, 1462, 1463, 1464, 1465, 1466, 1467, 1468, 1469, 1470, 1471, 1472, 1473, 1474, 1475, 1476, 1477, 1478, 1479, 1480, 1481] (by decide +kernel) (by decide +kernel)
set_option maxRecDepth 20000 in
theorem gL_law_X11_count : GoodIn wsL_law (wsV RL 42 RX11 yX11_count wsX11_count) := goodIn_app (goodIn_of _ (by decide +kernel)) ggL_law_X11_count
set_option maxRecDepth 20000 in
theorem ggL_law_L_tet : GoodIn wsL_law wsL_tet := goodIn_ca (goodIn_r _ [586, 587, 588, 589, 590, 2, 591, 592, 593, 24, 454, 594, 595, 596, 597, 23, 598, 411, 1417, 1418, 1419, 1420, 1421, 1422, 1423, 1424, 1425, 1426, 1427, 1428, 1429, 1491, 1492, 1493, 1494, 1495, 1496] (by decide +kernel) (by decide +kernel)) (goodIn_sub (fun _ h => List.mem_append_right _ h) (by decide +kernel))
set_option maxRecDepth 20000 in
theorem gL_law_L_tet : GoodIn wsL_law (va_wsS RL 43 yL_tet wsL_tet) := goodIn_app (goodIn_of _ (by decide +kernel)) ggL_law_L_tet
set_option maxRecDepth 20000 in
theorem ggL_law_X11_tet : GoodIn wsL_law wsX11_tet := goodIn_r _ [602, 180, 134, 603, 604, 605, 5, 606, 333, 607, 608, 609, 610, 611, 612, 613, 614, 408, 409, 410, 334, 335, 336, 337, 338, 339, 340, 341, 342, 343, 344, 345, 346, 347, 348, 349, 350, 351, 1430, 1431, 1432, 1433, 1434, 1435, 1436, 1437, 1438, 1439, 1440, 1441, 1442, 1443, 1444, 1445, 1446, 1447, 1448, 1449, 1450, 1451, 1452, 1453, 1454, 1455, 1456, 1457, 1458, 1459, 1460, 1461, 1462, 1463, 1464, 1465, 1466, 1467, 1468, 1469, 1470, 1471, 1472, 1473, 1474, 1475, 1476, 1477, 1478, 1479, 1480, 1481] (by decide +kernel) (by decide +kernel)
set_option maxRecDepth 20000 in
theorem gL_law_X11_tet : GoodIn wsL_law (wsV RL 48 RX11 yX11_tet wsX11_tet) := goodIn_app (goodIn_of _ (by decide +kernel)) ggL_law_X11_tet
set_option maxRecDepth 20000 in
theorem ggL_law_X11_thrown : GoodIn wsL_law wsX11_thrown := goodIn_r _ [618, 180, 1430, 1431, 1432, 1433, 1434, 1435, 1436, 1437, 1438, 1439, 1440, 1441, 1442, 1443, 1444, 1445, 1446, 1447, 1448, 1449, 1450, 1451, 1452, 1453, 1454, 1455, 1456, 1457, 1458, 1459, 1460, 1461, 1462, 1463, 1464, 1465, 1466, 1467, 1468, 1469, 1470, 1471, 1472, 1473, 1474, 1475, 1476, 1477, 1478, 1479, 1480, 1481] (by decide +kernel) (by decide +kernel)
set_option maxRecDepth 20000 in
theorem gL_law_X11_thrown : GoodIn wsL_law (wsV RL 49 RX11 yX11_thrown wsX11_thrown) := goodIn_app (goodIn_of _ (by decide +kernel)) ggL_law_X11_thrown
set_option maxRecDepth 20000 in
theorem ggL_law_X10_corner : GoodIn wsL_law wsX10_corner := goodIn_r _ [622, 24, 577, 450, 595, 596, 597, 23, 598, 411, 1417, 1418, 1419, 1420, 1421, 1422, 1423, 1424, 1425, 1426, 1427, 1428, 1429, 1491, 1492, 1493, 1494, 1495, 1496] (by decide +kernel) (by decide +kernel)
set_option maxRecDepth 20000 in
theorem gL_law_X10_corner : GoodIn wsL_law (wsV RL 52 RX10 yX10_corner wsX10_corner) := goodIn_app (goodIn_of _ (by decide +kernel)) ggL_law_X10_corner
set_option maxRecDepth 20000 in
theorem ggL_law_X11_corner : GoodIn wsL_law wsX11_corner := goodIn_r _ [626, 180, 627, 628, 582, 603, 604, 605, 5, 606, 333, 607, 608, 609, 342, 343, 344, 345, 134, 346, 347, 348, 1430, 1431, 1432, 1433, 1434, 1435, 1436, 1437, 1438, 1439, 1440, 1441, 1442, 1443, 1444, 1445, 1446, 1447, 1448, 1449, 1450, 1451, 1452, 1453, 1454, 1455, 1456, 1457, 1458, 1459, 1460, 1461, 1462, 1463, 1464, 1465, 1466, 1467, 1468, 1469, 1470, 1471, 1472, 1473, 1474, 1475, 1476, 1477, 1478, 1479, 1480, 1481] (by decide +kernel) (by decide +kernel)
set_option maxRecDepth 20000 in
theorem gL_law_X11_corner : GoodIn wsL_law (wsV RL 56 RX11 yX11_corner wsX11_corner) := goodIn_app (goodIn_of _ (by decide +kernel)) ggL_law_X11_corner
set_option maxRecDepth 20000 in
theorem ggL_law_X10_edge : GoodIn wsL_law wsX10_edge := goodIn_r _ [632, 577, 32, 24, 450, 455, 452, 633, 634, 635, 451, 636, 637, 638, 2, 639, 595, 596, 597, 23, 598, 411, 457, 458, 459, 31, 460, 86, 87, 88, 461, 462, 463, 408, 409, 410, 464, 465, 466, 467, 468, 469, 470, 471, 472, 473, 474, 475, 476, 477, 478, 479, 480, 414, 415, 481, 482, 483, 484, 485, 486, 487, 488, 489, 490, 491, 492, 493, 494, 495, 496, 497, 498, 499, 500, 501, 502, 503, 504, 505, 506, 84, 85, 507, 508, 509, 510, 511, 512, 513, 514, 515, 516, 517, 518, 1417, 1418, 1419, 1420, 1421, 1422, 1423, 1424, 1425, 1426, 1427, 1428, 1429, 1491, 1492, 1493, 1494, 1495, 1496, 1499, 1500, 1501, 1502, 1503, 1504, 1505, 1506, 1507, 1508, 1509, 1510, 1511] (by decide +kernel) (by decide +kernel)
set_option maxRecDepth 20000 in
theorem gL_law_X10_edge : GoodIn wsL_law (wsV RL 57 RX10 yX10_edge wsX10_edge) := goodIn_app (goodIn_of _ (by decide +kernel)) ggL_law_X10_edge
set_option maxRecDepth 20000 in
theorem ggL_law_X11_edge : GoodIn wsL_law wsX11_edge := goodIn_r _ [643, 180, 644, 582, 645, 646, 647, 648, 649, 650, 603, 604, 605, 5, 606, 333, 651, 652, 653, 607, 608, 609, 654, 655, 656, 657, 658, 659, 660, 661, 662, 663, 338, 339, 340, 341, 342, 343, 344, 345, 134, 346, 347, 348, 664, 665, 666, 667, 668, 669, 670, 137, 671, 672, 673, 674, 610, 611, 612, 613, 614, 408, 409, 410, 334, 335, 336, 337, 349, 350, 351, 675, 676, 677, 678, 679, 680, 681, 682, 683, 684, 685, 686, 687, 688, 689, 135, 136, 690, 691, 692, 693, 628, 694, 695, 517, 696, 697, 698, 699, 1430, 1431, 1432, 1433, 1434, 1435, 1436, 1437, 1438, 1439, 1440, 1441, 1442, 1443, 1444, 1445, 1446, 1447, 1448, 1449, 1450, 1451, 1452, 1453, 1454, 1455, 1456, 1457, 1458, 1459, 1460, 1461, 1462, 1463, 1464, 1465, 1466, 1467, 1468, 1469, 1470, 1471, 1472, 1473, 1474, 1475, 1476, 1477, 1478, 1479, 1480, 1481] (by decide +kernel) (by decide +kernel)
set_option maxRecDepth 20000 in
theorem gL_law_X11_edge : GoodIn wsL_law (wsV RL 60 RX11 yX11_edge wsX11_edge) := goodIn_app (goodIn_of _ (by decide +kernel)) ggL_law_X11_edge
set_option maxRecDepth 20000 in
theorem ggL_law_X10_prime : GoodIn wsL_law wsX10_prime := goodIn_r _ [703, 577, 32, 24, 450, 451, 453, 456, 636, 637, 638, 2, 639, 595, 596, 597, 23, 598, 411, 457, 458, 459, 31, 460, 86, 87, 88, 461, 462, 463, 408, 409, 410, 464, 465, 466, 467, 468, 469, 470, 471, 472, 473, 474, 475, 476, 477, 478, 479, 480, 414, 415, 481, 482, 483, 484, 485, 486, 487, 488, 489, 490, 491, 492, 493, 494, 495, 496, 497, 498, 499, 500, 501, 502, 503, 504, 505, 506, 84, 85, 507, 508, 509, 510, 511, 512, 513, 514, 515, 516, 517, 518, 1417, 1418, 1419, 1420, 1421, 1422, 1423, 1424, 1425, 1426, 1427, 1428, 1429, 1491, 1492, 1493, 1494, 1495, 1496, 1499, 1500, 1501, 1502, 1503, 1504, 1505, 1506, 1507, 1508, 1509, 1510, 1511] (by decide +kernel) (by decide +kernel)
set_option maxRecDepth 20000 in
theorem gL_law_X10_prime : GoodIn wsL_law (wsV RL 61 RX10 yX10_prime wsX10_prime) := goodIn_app (goodIn_of _ (by decide +kernel)) ggL_law_X10_prime
set_option maxRecDepth 20000 in
theorem ggL_law_X11_prime : GoodIn wsL_law wsX11_prime := goodIn_r _ [707, 180, 582, 650, 135, 136, 603, 604, 605, 5, 606, 333, 651, 652, 653, 607, 608, 609, 654, 655, 656, 657, 645, 646, 647, 648, 649, 658, 659, 660, 661, 662, 663, 338, 339, 340, 341, 342, 343, 344, 345, 134, 346, 347, 348, 664, 665, 666, 667, 668, 669, 670, 137, 671, 672, 673, 674, 610, 611, 612, 613, 614, 408, 409, 410, 334, 335, 336, 337, 349, 350, 351, 675, 676, 677, 678, 679, 680, 681, 682, 683, 684, 685, 686, 687, 688, 689, 690, 691, 692, 693, 628, 694, 695, 517, 696, 697, 698, 699, 1430, 1431, 1432, 1433, 1434, 1435, 1436, 1437, 1438, 1439, 1440, 1441, 1442, 1443, 1444, 1445, 1446, 1447, 1448, 1449, 1450, 1451, 1452, 1453, 1454, 1455, 1456, 1457, 1458, 1459, 1460, 1461, 1462, 1463, 1464, 1465, 1466, 1467, 1468, 1469, 1470, 1471, 1472, 1473, 1474, 1475, 1476, 1477, 1478, 1479, 1480, 1481] (by decide +kernel) (by decide +kernel)
set_option maxRecDepth 20000 in
theorem gL_law_X11_prime : GoodIn wsL_law (wsV RL 65 RX11 yX11_prime wsX11_prime) := goodIn_app (goodIn_of _ (by decide +kernel)) ggL_law_X11_prime
set_option maxRecDepth 20000 in
theorem ggL_law_X10_solid : GoodIn wsL_law wsX10_solid := goodIn_r _ [711, 24, 36, 712, 713, 2, 714, 715, 716, 717, 23, 718, 411, 71, 72, 719, 720, 721, 722, 723, 724, 725, 726, 379, 454, 32, 450, 635, 457, 458, 459, 31, 460, 86, 87, 88, 461, 462, 463, 408, 409, 410, 464, 465, 466, 467, 468, 469, 470, 471, 472, 473, 474, 475, 476, 477, 478, 479, 480, 414, 415, 481, 482, 483, 484, 485, 486, 487, 488, 489, 727, 728, 729, 35, 730, 384, 562, 563, 564, 565, 94, 1417, 1418, 1419, 1420, 1421, 1422, 1423, 1424, 1425, 1426, 1427, 1428, 1429, 1491, 1492, 1493, 1494, 1495, 1496, 1499, 1500, 1501, 1502, 1503, 1504, 1505, 1506, 1507, 1508, 1509, 1510, 1511, 1512, 1513, 1514, 1515] (by decide +kernel) (by decide +kernel)
set_option maxRecDepth 20000 in
theorem gL_law_X10_solid : GoodIn wsL_law (wsV RL 66 RX10 yX10_solid wsX10_solid) := goodIn_app (goodIn_of _ (by decide +kernel)) ggL_law_X10_solid
set_option maxRecDepth 20000 in
theorem ggL_law_X11_solid : GoodIn wsL_law wsX11_solid := goodIn_r _ [734, 180, 627, 142, 735, 736, 5, 737, 607, 608, 609, 738, 739, 740, 741, 333, 134, 610, 611, 612, 613, 614, 408, 409, 410, 334, 335, 336, 337, 338, 339, 340, 341, 342, 343, 344, 345, 346, 347, 348, 349, 350, 351, 742, 743, 744, 745, 746, 747, 748, 749, 649, 654, 655, 656, 657, 645, 646, 647, 648, 650, 658, 659, 660, 661, 662, 663, 664, 665, 666, 667, 668, 669, 670, 137, 671, 672, 673, 674, 675, 676, 677, 678, 679, 680, 681, 682, 683, 684, 685, 686, 687, 688, 689, 135, 136, 690, 691, 692, 693, 628, 694, 695, 517, 696, 697, 698, 699, 750, 751, 752, 753, 754, 755, 756, 757, 758, 141, 759, 760, 761, 762, 763, 764, 765, 766, 138, 139, 140, 767, 768, 769, 770, 771, 772, 773, 774, 1430, 1431, 1432, 1433, 1434, 1435, 1436, 1437, 1438, 1439, 1440, 1441, 1442, 1443, 1444, 1445, 1446, 1447, 1448, 1449, 1450, 1451, 1452, 1453, 1454, 1455, 1456, 1457, 1458, 1459, 1460, 1461, 1462, 1463, 1464, 1465, 1466, 1467, 1468, 1469, 1470, 1471, 1472, 1473, 1474, 1475, 1476, 1477, 1478, 1479, 1480, 1481] (by decide +kernel) (by decide +kernel)
set_option maxRecDepth 20000 in
theorem gL_law_X11_solid : GoodIn wsL_law (wsV RL 69 RX11 yX11_solid wsX11_solid) := goodIn_app (goodIn_of _ (by decide +kernel)) ggL_law_X11_solid
set_option maxRecDepth 20000 in
theorem ggL_law_X10_term : GoodIn wsL_law wsX10_term := goodIn_r _ [778, 577, 36, 779, 780, 712, 713, 2, 714, 781, 782, 783, 35, 784, 384, 562, 563, 564, 565, 94, 785, 1417, 1418, 1419, 1420, 1421, 1422, 1423, 1424, 1425, 1426, 1427, 1428, 1429, 1512, 1513, 1514, 1515] (by decide +kernel) (by decide +kernel)
set_option maxRecDepth 20000 in
theorem gL_law_X10_term : GoodIn wsL_law (wsV RL 70 RX10 yX10_term wsX10_term) := goodIn_app (goodIn_of _ (by decide +kernel)) ggL_law_X10_term
set_option maxRecDepth 20000 in
theorem ggL_law_X11_term : GoodIn wsL_law wsX11_term := goodIn_r _ [789, 180, 628, 582, 142, 138, 139, 140, 735, 736, 5, 737, 607, 608, 609, 750, 751, 752, 753, 333, 134, 754, 755, 756, 757, 758, 141, 654, 655, 656, 657, 645, 646, 647, 648, 649, 650, 658, 659, 660, 661, 662, 663, 338, 339, 340, 341, 342, 343, 344, 345, 346, 347, 348, 664, 665, 666, 667, 668, 669, 670, 137, 671, 672, 673, 674, 610, 611, 612, 613, 614, 408, 409, 410, 334, 335, 336, 337, 349, 350, 351, 675, 676, 677, 678, 679, 680, 681, 682, 683, 684, 685, 686, 687, 688, 689, 135, 136, 690, 691, 692, 693, 694, 695, 517, 696, 697, 698, 699, 759, 760, 761, 762, 763, 764, 765, 766, 767, 768, 769, 770, 771, 772, 773, 774, 1430, 1431, 1432, 1433, 1434, 1435, 1436, 1437, 1438, 1439, 1440, 1441, 1442, 1443, 1444, 1445, 1446, 1447, 1448, 1449, 1450, 1451, 1452, 1453, 1454, 1455, 1456, 1457, 1458, 1459, 1460, 1461, 1462, 1463, 1464, 1465, 1466, 1467, 1468, 1469, 1470, 1471, 1472, 1473, 1474, 1475, 1476, 1477, 1478, 1479, 1480, 1481] (by decide +kernel) (by decide +kernel)
set_option maxRecDepth 20000 in
theorem gL_law_X11_term : GoodIn wsL_law (wsV RL 73 RX11 yX11_term wsX11_term) := goodIn_app (goodIn_of _ (by decide +kernel)) ggL_law_X11_term
set_option maxRecDepth 20000 in
theorem ggL_law_X10_much : GoodIn wsL_law wsX10_much := goodIn_r _ [793, 577, 36, 712, 713, 2, 714, 794, 524, 525, 35, 526, 384, 92, 93, 795, 528, 529, 530, 785, 563, 564, 565, 94, 1417, 1418, 1419, 1420, 1421, 1422, 1423, 1424, 1425, 1426, 1427, 1428, 1429, 1512, 1513, 1514, 1515] (by decide +kernel) (by decide +kernel)
set_option maxRecDepth 20000 in
theorem gL_law_X10_much : GoodIn wsL_law (wsV RL 74 RX10 yX10_much wsX10_much) := goodIn_app (goodIn_of _ (by decide +kernel)) ggL_law_X10_much
set_option maxRecDepth 20000 in
theorem ggL_law_X11_much : GoodIn wsL_law wsX11_much := goodIn_r _ [799, 180, 582, 735, 736, 5, 737, 750, 751, 752, 753, 333, 134, 754, 755, 756, 757, 758, 141, 654, 655, 656, 657, 645, 646, 647, 648, 649, 650, 658, 659, 660, 661, 662, 663, 338, 339, 340, 341, 342, 343, 344, 345, 346, 347, 348, 664, 665, 666, 667, 668, 669, 670, 137, 671, 672, 673, 674, 610, 611, 612, 613, 614, 408, 409, 410, 334, 335, 336, 337, 349, 350, 351, 675, 676, 677, 678, 679, 680, 681, 682, 683, 684, 685, 686, 687, 688, 689, 135, 136, 690, 691, 692, 693, 628, 694, 695, 517, 696, 697, 698, 699, 759, 760, 761, 762, 763, 764, 765, 766, 138, 139, 140, 767, 768, 769, 770, 771, 772, 773, 774, 142, 800, 801, 802, 803, 1430, 1431, 1432, 1433, 1434, 1435, 1436, 1437, 1438, 1439, 1440, 1441, 1442, 1443, 1444, 1445, 1446, 1447, 1448, 1449, 1450, 1451, 1452, 1453, 1454, 1455, 1456, 1457, 1458, 1459, 1460, 1461, 1462, 1463, 1464, 1465, 1466, 1467, 1468, 1469, 1470, 1471, 1472, 1473, 1474, 1475, 1476, 1477, 1478, 1479, 1480, 1481] (by decide +kernel) (by decide +kernel)
set_option maxRecDepth 20000 in
theorem gL_law_X11_much : GoodIn wsL_law (wsV RL 77 RX11 yX11_much wsX11_much) := goodIn_app (goodIn_of _ (by decide +kernel)) ggL_law_X11_much
set_option maxRecDepth 20000 in
theorem ggL_law_X10_alike : GoodIn wsL_law wsX10_alike := goodIn_r _ [807, 24, 36, 712, 713, 2, 714, 715, 716, 717, 23, 718, 411, 71, 72, 808, 809, 810, 35, 811, 384, 562, 563, 564, 565, 94, 1417, 1418, 1419, 1420, 1421, 1422, 1423, 1424, 1425, 1426, 1427, 1428, 1429, 1491, 1492, 1493, 1494, 1495, 1496, 1512, 1513, 1514, 1515] (by decide +kernel) (by decide +kernel)
set_option maxRecDepth 20000 in
theorem gL_law_X10_alike : GoodIn wsL_law (wsV RL 78 RX10 yX10_alike wsX10_alike) := goodIn_app (goodIn_of _ (by decide +kernel)) ggL_law_X10_alike
set_option maxRecDepth 20000 in
theorem ggL_law_X11_alike : GoodIn wsL_law wsX11_alike := goodIn_r _ [815, 180, 735, 736, 5, 737, 738, 739, 740, 741, 333, 134, 610, 611, 612, 613, 614, 408, 409, 410, 334, 335, 336, 337, 338, 339, 340, 341, 342, 343, 344, 345, 346, 347, 348, 349, 350, 351, 816, 817, 818, 819, 141, 758, 138, 139, 820, 821, 140, 822, 750, 751, 752, 753, 754, 755, 756, 757, 654, 655, 656, 657, 645, 646, 647, 648, 649, 650, 658, 659, 660, 661, 662, 663, 664, 665, 666, 667, 668, 669, 670, 137, 671, 672, 673, 674, 675, 676, 677, 678, 679, 680, 681, 682, 683, 684, 685, 686, 687, 688, 689, 135, 136, 690, 691, 692, 693, 628, 694, 695, 517, 696, 697, 698, 699, 759, 760, 761, 762, 763, 764, 765, 766, 767, 768, 769, 770, 771, 772, 773, 774, 142, 1430, 1431, 1432, 1433, 1434, 1435, 1436, 1437, 1438, 1439, 1440, 1441, 1442, 1443, 1444, 1445, 1446, 1447, 1448, 1449, 1450, 1451, 1452, 1453, 1454, 1455, 1456, 1457, 1458, 1459, 1460, 1461, 1462, 1463, 1464, 1465, 1466, 1467, 1468, 1469, 1470, 1471, 1472, 1473, 1474, 1475, 1476, 1477, 1478, 1479, 1480, 1481] (by decide +kernel) (by decide +kernel)
set_option maxRecDepth 20000 in
theorem gL_law_X11_alike : GoodIn wsL_law (wsV RL 81 RX11 yX11_alike wsX11_alike) := goodIn_app (goodIn_of _ (by decide +kernel)) ggL_law_X11_alike
set_option maxRecDepth 20000 in
theorem ggL_law_X10_unlike : GoodIn wsL_law wsX10_unlike := goodIn_r _ [826, 577, 36, 779, 780, 712, 713, 2, 714, 808, 809, 810, 35, 811, 384, 562, 563, 564, 565, 94, 785, 1417, 1418, 1419, 1420, 1421, 1422, 1423, 1424, 1425, 1426, 1427, 1428, 1429, 1512, 1513, 1514, 1515] (by decide +kernel) (by decide +kernel)
set_option maxRecDepth 20000 in
theorem gL_law_X10_unlike : GoodIn wsL_law (wsV RL 82 RX10 yX10_unlike wsX10_unlike) := goodIn_app (goodIn_of _ (by decide +kernel)) ggL_law_X10_unlike
set_option maxRecDepth 20000 in
theorem ggL_law_X11_unlike : GoodIn wsL_law wsX11_unlike := goodIn_r _ [830, 180, 628, 582, 820, 821, 822, 735, 736, 5, 737, 607, 608, 609, 816, 817, 818, 819, 141, 758, 138, 139, 140, 750, 751, 752, 753, 333, 134, 754, 755, 756, 757, 654, 655, 656, 657, 645, 646, 647, 648, 649, 650, 658, 659, 660, 661, 662, 663, 338, 339, 340, 341, 342, 343, 344, 345, 346, 347, 348, 664, 665, 666, 667, 668, 669, 670, 137, 671, 672, 673, 674, 610, 611, 612, 613, 614, 408, 409, 410, 334, 335, 336, 337, 349, 350, 351, 675, 676, 677, 678, 679, 680, 681, 682, 683, 684, 685, 686, 687, 688, 689, 135, 136, 690, 691, 692, 693, 694, 695, 517, 696, 697, 698, 699, 759, 760, 761, 762, 763, 764, 765, 766, 767, 768, 769, 770, 771, 772, 773, 774, 142, 1430, 1431, 1432, 1433, 1434, 1435, 1436, 1437, 1438, 1439, 1440, 1441, 1442, 1443, 1444, 1445, 1446, 1447, 1448, 1449, 1450, 1451, 1452, 1453, 1454, 1455, 1456, 1457, 1458, 1459, 1460, 1461, 1462, 1463, 1464, 1465, 1466, 1467, 1468, 1469, 1470, 1471, 1472, 1473, 1474, 1475, 1476, 1477, 1478, 1479, 1480, 1481] (by decide +kernel) (by decide +kernel)
set_option maxRecDepth 20000 in
theorem gL_law_X11_unlike : GoodIn wsL_law (wsV RL 85 RX11 yX11_unlike wsX11_unlike) := goodIn_app (goodIn_of _ (by decide +kernel)) ggL_law_X11_unlike
set_option maxRecDepth 20000 in
theorem ggL_law_X10_lacks : GoodIn wsL_law wsX10_lacks := goodIn_r _ [834, 577, 24, 712, 713, 2, 714, 715, 716, 717, 23, 718, 411, 71, 72, 1417, 1418, 1419, 1420, 1421, 1422, 1423, 1424, 1425, 1426, 1427, 1428, 1429, 1491, 1492, 1493, 1494, 1495, 1496] (by decide +kernel) (by decide +kernel)
set_option maxRecDepth 20000 in
theorem gL_law_X10_lacks : GoodIn wsL_law (wsV RL 86 RX10 yX10_lacks wsX10_lacks) := goodIn_app (goodIn_of _ (by decide +kernel)) ggL_law_X10_lacks
set_option maxRecDepth 20000 in
theorem ggL_law_X11_lacks : GoodIn wsL_law wsX11_lacks := goodIn_r _ [838, 180, 582, 735, 736, 5, 737, 738, 739, 740, 741, 333, 134, 610, 611, 612, 613, 614, 408, 409, 410, 334, 335, 336, 337, 338, 339, 340, 341, 342, 343, 344, 345, 346, 347, 348, 349, 350, 351, 1430, 1431, 1432, 1433, 1434, 1435, 1436, 1437, 1438, 1439, 1440, 1441, 1442, 1443, 1444, 1445, 1446, 1447, 1448, 1449, 1450, 1451, 1452, 1453, 1454, 1455, 1456, 1457, 1458, 1459, 1460, 1461, 1462, 1463, 1464, 1465, 1466, 1467, 1468, 1469, 1470, 1471, 1472, 1473, 1474, 1475, 1476, 1477, 1478, 1479, 1480, 1481] (by decide +kernel) (by decide +kernel)
set_option maxRecDepth 20000 in
theorem gL_law_X11_lacks : GoodIn wsL_law (wsV RL 89 RX11 yX11_lacks wsX11_lacks) := goodIn_app (goodIn_of _ (by decide +kernel)) ggL_law_X11_lacks
set_option maxRecDepth 20000 in
theorem ggL_law_X10_where : GoodIn wsL_law wsX10_where := goodIn_r _ [842, 24, 45, 450, 595, 596, 597, 23, 598, 411, 843, 421, 2, 422, 844, 845, 846, 44, 847, 848, 408, 409, 410, 849, 106, 107, 850, 498, 499, 851, 495, 496, 852, 414, 415, 853, 854, 855, 856, 105, 857, 858, 859, 860, 861, 862, 863, 864, 1417, 1418, 1419, 1420, 1421, 1422, 1423, 1424, 1425, 1426, 1427, 1428, 1429, 1491, 1492, 1493, 1494, 1495, 1496, 1523, 1524, 1525, 1526, 1527, 1528, 1529] (by decide +kernel) (by decide +kernel)
set_option maxRecDepth 20000 in
theorem gL_law_X10_where : GoodIn wsL_law (wsV RL 90 RX10 yX10_where wsX10_where) := goodIn_app (goodIn_of _ (by decide +kernel)) ggL_law_X10_where
set_option maxRecDepth 20000 in
theorem ggL_law_X11_where : GoodIn wsL_law wsX11_where := goodIn_r _ [868, 180, 603, 604, 605, 5, 606, 333, 869, 870, 871, 872, 873, 874, 143, 607, 608, 609, 875, 876, 877, 878, 334, 335, 336, 337, 338, 339, 340, 341, 342, 343, 344, 345, 134, 346, 347, 348, 349, 350, 351, 879, 880, 881, 882, 356, 357, 358, 359, 1430, 1431, 1432, 1433, 1434, 1435, 1436, 1437, 1438, 1439, 1440, 1441, 1442, 1443, 1444, 1445, 1446, 1447, 1448, 1449, 1450, 1451, 1452, 1453, 1454, 1455, 1456, 1457, 1458, 1459, 1460, 1461, 1462, 1463, 1464, 1465, 1466, 1467, 1468, 1469, 1470, 1471, 1472, 1473, 1474, 1475, 1476, 1477, 1478, 1479, 1480, 1481] (by decide +kernel) (by decide +kernel)
set_option maxRecDepth 20000 in
theorem gL_law_X11_where : GoodIn wsL_law (wsV RL 93 RX11 yX11_where wsX11_where) := goodIn_app (goodIn_of _ (by decide +kernel)) ggL_law_X11_where
set_option maxRecDepth 20000 in
theorem ggL_law_X10_cut : GoodIn wsL_law wsX10_cut := goodIn_r _ [886, 24, 45, 450, 379, 595, 596, 597, 23, 598, 411, 843, 421, 2, 422, 844, 845, 846, 44, 847, 848, 408, 409, 410, 849, 106, 107, 850, 498, 499, 851, 495, 496, 852, 414, 415, 853, 854, 855, 856, 105, 857, 858, 859, 860, 861, 862, 863, 864, 446, 447, 448, 449, 32, 451, 36, 452, 453, 454, 455, 456, 457, 458, 459, 31, 460, 86, 87, 88, 461, 462, 463, 464, 465, 466, 467, 468, 469, 470, 471, 472, 473, 474, 475, 476, 477, 478, 479, 480, 481, 482, 483, 484, 485, 486, 487, 488, 489, 490, 491, 492, 493, 494, 497, 500, 501, 502, 503, 504, 505, 506, 84, 85, 507, 508, 509, 510, 511, 512, 513, 514, 515, 516, 517, 518, 519, 520, 521, 35, 522, 94, 384, 523, 524, 525, 526, 92, 93, 527, 528, 529, 530, 531, 532, 533, 534, 535, 536, 537, 538, 539, 540, 541, 542, 543, 544, 54, 545, 546, 399, 400, 401, 547, 548, 549, 550, 551, 552, 553, 554, 555, 556, 557, 558, 559, 560, 561, 562, 563, 564, 565, 887, 888, 889, 890, 70, 73, 412, 74, 71, 413, 891, 892, 893, 894, 72, 407, 895, 404, 405, 406, 442, 443, 444, 445, 385, 386, 387, 388, 389, 37, 380, 381, 382, 383, 1417, 1418, 1419, 1420, 1421, 1422, 1423, 1424, 1425, 1426, 1427, 1428, 1429, 1491, 1492, 1493, 1494, 1495, 1496, 1523, 1524, 1525, 1526, 1527, 1528, 1529, 1499, 1500, 1501, 1502, 1503, 1504, 1505, 1506, 1507, 1508, 1509, 1510, 1511, 1512, 1513, 1514, 1515] (by decide +kernel) (by decide +kernel)
set_option maxRecDepth 20000 in
theorem gL_law_X10_cut : GoodIn wsL_law (wsV RL 94 RX10 yX10_cut wsX10_cut) := goodIn_app (goodIn_of _ (by decide +kernel)) ggL_law_X10_cut
set_option maxRecDepth 20000 in
theorem ggL_law_X11_cut : GoodIn wsL_law wsX11_cut := goodIn_r _ [899, 180, 873, 874, 333, 143, 571, 603, 604, 605, 5, 606, 607, 608, 609, 869, 870, 871, 872, 875, 876, 877, 878, 334, 335, 336, 337, 338, 339, 340, 341, 342, 343, 344, 345, 134, 346, 347, 348, 349, 350, 351, 879, 880, 881, 882, 356, 357, 358, 359, 1430, 1431, 1432, 1433, 1434, 1435, 1436, 1437, 1438, 1439, 1440, 1441, 1442, 1443, 1444, 1445, 1446, 1447, 1448, 1449, 1450, 1451, 1452, 1453, 1454, 1455, 1456, 1457, 1458, 1459, 1460, 1461, 1462, 1463, 1464, 1465, 1466, 1467, 1468, 1469, 1470, 1471, 1472, 1473, 1474, 1475, 1476, 1477, 1478, 1479, 1480, 1481] (by decide +kernel) (by decide +kernel)
set_option maxRecDepth 20000 in
theorem gL_law_X11_cut : GoodIn wsL_law (wsV RL 97 RX11 yX11_cut wsX11_cut) := goodIn_app (goodIn_of _ (by decide +kernel)) ggL_law_X11_cut
set_option maxRecDepth 20000 in
theorem ggL_law_X10_join : GoodIn wsL_law wsX10_join := goodIn_r _ [903, 24, 454, 904, 498, 409, 499, 905, 495, 496, 595, 596, 597, 23, 598, 411, 906, 907, 908, 909, 910, 911, 912, 913, 70, 914, 915, 916, 917, 918, 919, 920, 921, 446, 447, 448, 2, 449, 32, 450, 451, 36, 452, 453, 455, 456, 457, 458, 459, 31, 460, 86, 87, 88, 461, 462, 463, 408, 410, 464, 465, 466, 467, 468, 469, 470, 471, 472, 473, 474, 475, 476, 477, 478, 479, 480, 414, 415, 481, 482, 483, 484, 485, 486, 487, 488, 489, 490, 491, 492, 493, 494, 497, 500, 501, 502, 503, 504, 505, 506, 84, 85, 507, 508, 509, 510, 511, 512, 513, 514, 515, 516, 517, 518, 519, 520, 521, 35, 522, 94, 384, 523, 524, 525, 526, 92, 93, 527, 528, 529, 530, 531, 532, 533, 534, 535, 536, 537, 538, 539, 540, 541, 542, 543, 544, 54, 545, 546, 399, 400, 401, 547, 548, 549, 550, 551, 552, 553, 554, 555, 556, 557, 558, 559, 560, 561, 562, 563, 564, 565, 922, 923, 924, 925, 412, 926, 892, 893, 894, 72, 407, 413, 927, 928, 929, 930, 71, 385, 386, 387, 388, 389, 37, 380, 381, 382, 383, 1417, 1418, 1419, 1420, 1421, 1422, 1423, 1424, 1425, 1426, 1427, 1428, 1429, 1491, 1492, 1493, 1494, 1495, 1496, 1499, 1500, 1501, 1502, 1503, 1504, 1505, 1506, 1507, 1508, 1509, 1510, 1511, 1512, 1513, 1514, 1515] (by decide +kernel) (by decide +kernel)
set_option maxRecDepth 20000 in
theorem gL_law_X10_join : GoodIn wsL_law (wsV RL 98 RX10 yX10_join wsX10_join) := goodIn_app (goodIn_of _ (by decide +kernel)) ggL_law_X10_join
set_option maxRecDepth 20000 in
theorem ggL_law_X11_join : GoodIn wsL_law wsX11_join := goodIn_r _ [934, 180, 134, 603, 604, 605, 5, 606, 333, 935, 936, 937, 938, 939, 940, 941, 942, 342, 343, 344, 345, 346, 347, 348, 943, 944, 945, 946, 356, 357, 358, 359, 947, 948, 949, 950, 571, 879, 880, 881, 882, 1430, 1431, 1432, 1433, 1434, 1435, 1436, 1437, 1438, 1439, 1440, 1441, 1442, 1443, 1444, 1445, 1446, 1447, 1448, 1449, 1450, 1451, 1452, 1453, 1454, 1455, 1456, 1457, 1458, 1459, 1460, 1461, 1462, 1463, 1464, 1465, 1466, 1467, 1468, 1469, 1470, 1471, 1472, 1473, 1474, 1475, 1476, 1477, 1478, 1479, 1480, 1481] (by decide +kernel) (by decide +kernel)
set_option maxRecDepth 20000 in
theorem gL_law_X11_join : GoodIn wsL_law (wsV RL 101 RX11 yX11_join wsX11_join) := goodIn_app (goodIn_of _ (by decide +kernel)) ggL_law_X11_join
set_option maxRecDepth 20000 in
theorem ggL_law_X10_turn : GoodIn wsL_law wsX10_turn := goodIn_r _ [954, 24, 450, 955, 55, 956, 399, 400, 401, 595, 596, 597, 23, 598, 411, 385, 386, 387, 2, 388, 389, 37, 380, 381, 382, 35, 383, 384, 1417, 1418, 1419, 1420, 1421, 1422, 1423, 1424, 1425, 1426, 1427, 1428, 1429, 1491, 1492, 1493, 1494, 1495, 1496, 1512, 1513, 1514, 1515] (by decide +kernel) (by decide +kernel)
set_option maxRecDepth 20000 in
theorem gL_law_X10_turn : GoodIn wsL_law (wsV RL 102 RX10 yX10_turn wsX10_turn) := goodIn_app (goodIn_of _ (by decide +kernel)) ggL_law_X10_turn
set_option maxRecDepth 20000 in
theorem ggL_law_X11_turn : GoodIn wsL_law wsX11_turn := goodIn_r _ [960, 180, 961, 134, 571, 603, 604, 605, 5, 606, 333, 607, 608, 609, 879, 880, 881, 882, 360, 361, 362, 342, 343, 344, 345, 346, 347, 348, 1430, 1431, 1432, 1433, 1434, 1435, 1436, 1437, 1438, 1439, 1440, 1441, 1442, 1443, 1444, 1445, 1446, 1447, 1448, 1449, 1450, 1451, 1452, 1453, 1454, 1455, 1456, 1457, 1458, 1459, 1460, 1461, 1462, 1463, 1464, 1465, 1466, 1467, 1468, 1469, 1470, 1471, 1472, 1473, 1474, 1475, 1476, 1477, 1478, 1479, 1480, 1481] (by decide +kernel) (by decide +kernel)
set_option maxRecDepth 20000 in
theorem gL_law_X11_turn : GoodIn wsL_law (wsV RL 105 RX11 yX11_turn wsX11_turn) := goodIn_app (goodIn_of _ (by decide +kernel)) ggL_law_X11_turn
set_option maxRecDepth 20000 in
theorem ggL_law_X10_move : GoodIn wsL_law wsX10_move := goodIn_r _ [965, 24, 594, 595, 596, 597, 23, 598, 411, 966, 967, 2, 968, 969, 970, 971, 972, 70, 421, 422, 973, 974, 975, 976, 385, 386, 387, 388, 389, 37, 380, 381, 382, 35, 383, 384, 1417, 1418, 1419, 1420, 1421, 1422, 1423, 1424, 1425, 1426, 1427, 1428, 1429, 1491, 1492, 1493, 1494, 1495, 1496, 1512, 1513, 1514, 1515] (by decide +kernel) (by decide +kernel)
set_option maxRecDepth 20000 in
theorem gL_law_X10_move : GoodIn wsL_law (wsV RL 106 RX10 yX10_move wsX10_move) := goodIn_app (goodIn_of _ (by decide +kernel)) ggL_law_X10_move
set_option maxRecDepth 20000 in
theorem ggL_law_X11_move : GoodIn wsL_law wsX11_move := goodIn_r _ [980, 180, 981, 982, 873, 874, 571, 603, 604, 605, 5, 606, 333, 607, 608, 609, 342, 343, 344, 345, 134, 346, 347, 348, 356, 357, 358, 359, 610, 611, 612, 613, 614, 408, 409, 410, 334, 335, 336, 337, 338, 339, 340, 341, 349, 350, 351, 1430, 1431, 1432, 1433, 1434, 1435, 1436, 1437, 1438, 1439, 1440, 1441, 1442, 1443, 1444, 1445, 1446, 1447, 1448, 1449, 1450, 1451, 1452, 1453, 1454, 1455, 1456, 1457, 1458, 1459, 1460, 1461, 1462, 1463, 1464, 1465, 1466, 1467, 1468, 1469, 1470, 1471, 1472, 1473, 1474, 1475, 1476, 1477, 1478, 1479, 1480, 1481] (by decide +kernel) (by decide +kernel)
set_option maxRecDepth 20000 in
theorem gL_law_X11_move : GoodIn wsL_law (wsV RL 109 RX11 yX11_move wsX11_move) := goodIn_app (goodIn_of _ (by decide +kernel)) ggL_law_X11_move
set_option maxRecDepth 20000 in
theorem ggL_law_X10_give : GoodIn wsL_law wsX10_give := goodIn_r _ [986, 24, 454, 595, 596, 597, 23, 598, 411, 712, 713, 2, 714, 446, 447, 448, 449, 32, 450, 451, 36, 452, 453, 455, 456, 457, 458, 459, 31, 460, 86, 87, 88, 461, 462, 463, 408, 409, 410, 464, 465, 466, 467, 468, 469, 470, 471, 472, 473, 474, 475, 476, 477, 478, 479, 480, 414, 415, 481, 482, 483, 484, 485, 486, 487, 488, 489, 490, 491, 492, 493, 494, 495, 496, 497, 498, 499, 500, 501, 502, 503, 504, 505, 506, 84, 85, 507, 508, 509, 510, 511, 512, 513, 514, 515, 516, 517, 518, 519, 520, 521, 35, 522, 94, 384, 523, 524, 525, 526, 92, 93, 527, 528, 529, 530, 531, 532, 533, 534, 535, 536, 537, 538, 539, 540, 541, 542, 543, 544, 54, 545, 546, 399, 400, 401, 547, 548, 549, 550, 551, 552, 553, 554, 555, 556, 557, 558, 559, 560, 561, 562, 563, 564, 565, 385, 386, 387, 388, 389, 37, 380, 381, 382, 383, 1417, 1418, 1419, 1420, 1421, 1422, 1423, 1424, 1425, 1426, 1427, 1428, 1429, 1491, 1492, 1493, 1494, 1495, 1496, 1499, 1500, 1501, 1502, 1503, 1504, 1505, 1506, 1507, 1508, 1509, 1510, 1511, 1512, 1513, 1514, 1515] (by decide +kernel) (by decide +kernel)
set_option maxRecDepth 20000 in
theorem gL_law_X10_give : GoodIn wsL_law (wsV RL 110 RX10 yX10_give wsX10_give) := goodIn_app (goodIn_of _ (by decide +kernel)) ggL_law_X10_give
set_option maxRecDepth 20000 in
theorem ggL_law_X11_give : GoodIn wsL_law wsX11_give := goodIn_r _ [990, 180, 134, 571, 603, 604, 605, 5, 606, 333, 735, 736, 737, 1430, 1431, 1432, 1433, 1434, 1435, 1436, 1437, 1438, 1439, 1440, 1441, 1442, 1443, 1444, 1445, 1446, 1447, 1448, 1449, 1450, 1451, 1452, 1453, 1454, 1455, 1456, 1457, 1458, 1459, 1460, 1461, 1462, 1463, 1464, 1465, 1466, 1467, 1468, 1469, 1470, 1471, 1472, 1473, 1474, 1475, 1476, 1477, 1478, 1479, 1480, 1481] (by decide +kernel) (by decide +kernel)
set_option maxRecDepth 20000 in
theorem gL_law_X11_give : GoodIn wsL_law (wsV RL 113 RX11 yX11_give wsX11_give) := goodIn_app (goodIn_of _ (by decide +kernel)) ggL_law_X11_give
set_option maxRecDepth 20000 in
theorem ggL_law_X10_drop : GoodIn wsL_law wsX10_drop := goodIn_r _ [994, 24, 379, 595, 596, 597, 23, 598, 411, 446, 447, 448, 2, 449, 32, 450, 451, 36, 452, 453, 454, 455, 456, 457, 458, 459, 31, 460, 86, 87, 88, 461, 462, 463, 408, 409, 410, 464, 465, 466, 467, 468, 469, 470, 471, 472, 473, 474, 475, 476, 477, 478, 479, 480, 414, 415, 481, 482, 483, 484, 485, 486, 487, 488, 489, 490, 491, 492, 493, 494, 495, 496, 497, 498, 499, 500, 501, 502, 503, 504, 505, 506, 84, 85, 507, 508, 509, 510, 511, 512, 513, 514, 515, 516, 517, 518, 519, 520, 521, 35, 522, 94, 384, 523, 524, 525, 526, 92, 93, 527, 528, 529, 530, 531, 532, 533, 534, 535, 536, 537, 538, 539, 540, 541, 542, 543, 544, 54, 545, 546, 399, 400, 401, 547, 548, 549, 550, 551, 552, 553, 554, 555, 556, 557, 558, 559, 560, 561, 562, 563, 564, 565, 927, 928, 929, 930, 70, 412, 71, 72, 385, 386, 387, 388, 389, 37, 380, 381, 382, 383, 1417, 1418, 1419, 1420, 1421, 1422, 1423, 1424, 1425, 1426, 1427, 1428, 1429, 1491, 1492, 1493, 1494, 1495, 1496, 1499, 1500, 1501, 1502, 1503, 1504, 1505, 1506, 1507, 1508, 1509, 1510, 1511, 1512, 1513, 1514, 1515] (by decide +kernel) (by decide +kernel)
set_option maxRecDepth 20000 in
theorem gL_law_X10_drop : GoodIn wsL_law (wsV RL 114 RX10 yX10_drop wsX10_drop) := goodIn_app (goodIn_of _ (by decide +kernel)) ggL_law_X10_drop
set_option maxRecDepth 20000 in
theorem ggL_law_X11_drop : GoodIn wsL_law wsX11_drop := goodIn_r _ [998, 180, 333, 603, 604, 605, 5, 606, 947, 948, 949, 950, 571, 879, 880, 881, 882, 134, 1430, 1431, 1432, 1433, 1434, 1435, 1436, 1437, 1438, 1439, 1440, 1441, 1442, 1443, 1444, 1445, 1446, 1447, 1448, 1449, 1450, 1451, 1452, 1453, 1454, 1455, 1456, 1457, 1458, 1459, 1460, 1461, 1462, 1463, 1464, 1465, 1466, 1467, 1468, 1469, 1470, 1471, 1472, 1473, 1474, 1475, 1476, 1477, 1478, 1479, 1480, 1481] (by decide +kernel) (by decide +kernel)
set_option maxRecDepth 20000 in
theorem gL_law_X11_drop : GoodIn wsL_law (wsV RL 117 RX11 yX11_drop wsX11_drop) := goodIn_app (goodIn_of _ (by decide +kernel)) ggL_law_X11_drop
set_option maxRecDepth 20000 in
theorem ggL_law_X10_points : GoodIn wsL_law wsX10_points := goodIn_r _ [1002, 24, 45, 450, 595, 596, 597, 23, 598, 411, 844, 845, 846, 44, 847, 848, 408, 409, 410, 849, 106, 107, 850, 498, 499, 851, 495, 496, 852, 414, 415, 853, 854, 855, 856, 105, 857, 858, 859, 860, 1003, 1004, 1005, 1006, 1007, 1008, 1009, 1010, 1011, 1012, 1013, 1014, 517, 1015, 1417, 1418, 1419, 1420, 1421, 1422, 1423, 1424, 1425, 1426, 1427, 1428, 1429, 1491, 1492, 1493, 1494, 1495, 1496, 1523, 1524, 1525, 1526, 1527, 1528, 1529] (by decide +kernel) (by decide +kernel)
set_option maxRecDepth 20000 in
theorem gL_law_X10_points : GoodIn wsL_law (wsV RL 118 RX10 yX10_points wsX10_points) := goodIn_app (goodIn_of _ (by decide +kernel)) ggL_law_X10_points
set_option maxRecDepth 20000 in
theorem ggL_law_X11_points : GoodIn wsL_law wsX11_points := goodIn_r _ [1019, 180, 603, 604, 605, 5, 606, 333, 869, 870, 871, 872, 873, 874, 143, 607, 608, 609, 875, 876, 877, 878, 334, 335, 336, 337, 338, 339, 340, 341, 342, 343, 344, 345, 134, 346, 347, 348, 349, 350, 351, 879, 880, 881, 882, 356, 357, 358, 359, 1430, 1431, 1432, 1433, 1434, 1435, 1436, 1437, 1438, 1439, 1440, 1441, 1442, 1443, 1444, 1445, 1446, 1447, 1448, 1449, 1450, 1451, 1452, 1453, 1454, 1455, 1456, 1457, 1458, 1459, 1460, 1461, 1462, 1463, 1464, 1465, 1466, 1467, 1468, 1469, 1470, 1471, 1472, 1473, 1474, 1475, 1476, 1477, 1478, 1479, 1480, 1481] (by decide +kernel) (by decide +kernel)
set_option maxRecDepth 20000 in
theorem gL_law_X11_points : GoodIn wsL_law (wsV RL 121 RX11 yX11_points wsX11_points) := goodIn_app (goodIn_of _ (by decide +kernel)) ggL_law_X11_points
set_option maxRecDepth 20000 in
theorem ggL_law_X10_fairest : GoodIn wsL_law wsX10_fairest := goodIn_r _ [1023, 24, 577, 45, 450, 1024, 595, 596, 597, 23, 598, 411, 844, 845, 846, 44, 847, 848, 408, 409, 410, 849, 106, 107, 850, 498, 499, 851, 495, 496, 852, 414, 415, 853, 854, 855, 856, 105, 857, 858, 859, 860, 1025, 1026, 1027, 1028, 108, 1008, 1007, 1009, 1010, 1011, 1012, 1013, 1014, 517, 1015, 1029, 1030, 1031, 1032, 1417, 1418, 1419, 1420, 1421, 1422, 1423, 1424, 1425, 1426, 1427, 1428, 1429, 1491, 1492, 1493, 1494, 1495, 1496, 1523, 1524, 1525, 1526, 1527, 1528, 1529] (by decide +kernel) (by decide +kernel)
set_option maxRecDepth 20000 in
theorem gL_law_X10_fairest : GoodIn wsL_law (wsV RL 122 RX10 yX10_fairest wsX10_fairest) := goodIn_app (goodIn_of _ (by decide +kernel)) ggL_law_X10_fairest
set_option maxRecDepth 20000 in
theorem ggL_law_X11_fairest : GoodIn wsL_law wsX11_fairest := goodIn_r _ [1036, 180, 627, 144, 582, 603, 604, 605, 5, 606, 333, 607, 608, 609, 1037, 1038, 1039, 1040, 869, 870, 871, 872, 873, 874, 143, 875, 876, 877, 878, 334, 335, 336, 337, 338, 339, 340, 341, 342, 343, 344, 345, 134, 346, 347, 348, 349, 350, 351, 879, 880, 881, 882, 356, 357, 358, 359, 1041, 1042, 1043, 1044, 1430, 1431, 1432, 1433, 1434, 1435, 1436, 1437, 1438, 1439, 1440, 1441, 1442, 1443, 1444, 1445, 1446, 1447, 1448, 1449, 1450, 1451, 1452, 1453, 1454, 1455, 1456, 1457, 1458, 1459, 1460, 1461, 1462, 1463, 1464, 1465, 1466, 1467, 1468, 1469, 1470, 1471, 1472, 1473, 1474, 1475, 1476, 1477, 1478, 1479, 1480, 1481] (by decide +kernel) (by decide +kernel)
set_option maxRecDepth 20000 in
theorem gL_law_X11_fairest : GoodIn wsL_law (wsV RL 125 RX11 yX11_fairest wsX11_fairest) := goodIn_app (goodIn_of _ (by decide +kernel)) ggL_law_X11_fairest
set_option maxRecDepth 20000 in
theorem ggL_law_X10_cutsTo : GoodIn wsL_law wsX10_cutsTo := goodIn_r _ [1048, 24, 49, 450, 595, 596, 597, 23, 598, 411, 1049, 1050, 1051, 48, 1052, 1053, 1054, 408, 409, 410, 1055, 113, 1056, 399, 400, 401, 1057, 414, 415, 1058, 1059, 1060, 1061, 1062, 1063, 1064, 1065, 115, 114, 1066, 1067, 845, 846, 44, 847, 848, 849, 106, 107, 850, 498, 499, 851, 495, 496, 852, 853, 854, 855, 856, 105, 857, 858, 859, 860, 1068, 1026, 1027, 1028, 108, 1008, 1007, 1009, 1010, 1011, 1012, 1013, 1014, 517, 1015, 1029, 1030, 1031, 1032, 1417, 1418, 1419, 1420, 1421, 1422, 1423, 1424, 1425, 1426, 1427, 1428, 1429, 1491, 1492, 1493, 1494, 1495, 1496, 1530, 1531, 1532, 1533, 1523, 1524, 1525, 1526, 1527, 1528, 1529] (by decide +kernel) (by decide +kernel)
set_option maxRecDepth 20000 in
theorem gL_law_X10_cutsTo : GoodIn wsL_law (wsV RL 126 RX10 yX10_cutsTo wsX10_cutsTo) := goodIn_app (goodIn_of _ (by decide +kernel)) ggL_law_X10_cutsTo
set_option maxRecDepth 20000 in
theorem ggL_law_X11_cutsTo : GoodIn wsL_law wsX11_cutsTo := goodIn_r _ [1072, 180, 145, 134, 144, 143, 603, 604, 605, 5, 606, 333, 610, 611, 612, 613, 614, 408, 409, 410, 334, 335, 336, 337, 338, 339, 340, 341, 342, 343, 344, 345, 346, 347, 348, 349, 350, 351, 1037, 1038, 1039, 1040, 869, 870, 871, 872, 873, 874, 607, 608, 609, 875, 876, 877, 878, 879, 880, 881, 882, 356, 357, 358, 359, 1041, 1042, 1043, 1044, 1430, 1431, 1432, 1433, 1434, 1435, 1436, 1437, 1438, 1439, 1440, 1441, 1442, 1443, 1444, 1445, 1446, 1447, 1448, 1449, 1450, 1451, 1452, 1453, 1454, 1455, 1456, 1457, 1458, 1459, 1460, 1461, 1462, 1463, 1464, 1465, 1466, 1467, 1468, 1469, 1470, 1471, 1472, 1473, 1474, 1475, 1476, 1477, 1478, 1479, 1480, 1481] (by decide +kernel) (by decide +kernel)
set_option maxRecDepth 20000 in
theorem gL_law_X11_cutsTo : GoodIn wsL_law (wsV RL 129 RX11 yX11_cutsTo wsX11_cutsTo) := goodIn_app (goodIn_of _ (by decide +kernel)) ggL_law_X11_cutsTo
set_option maxRecDepth 20000 in
theorem ggL_law_X10_pick : GoodIn wsL_law wsX10_pick := goodIn_r _ [1076, 389, 32, 24, 450, 451, 37, 452, 453, 456, 636, 637, 638, 2, 639, 595, 596, 597, 23, 598, 411, 457, 458, 459, 31, 460, 86, 87, 88, 461, 462, 463, 408, 409, 410, 464, 465, 466, 467, 468, 469, 470, 471, 472, 473, 474, 475, 476, 477, 478, 479, 480, 414, 415, 481, 482, 483, 484, 485, 486, 487, 488, 489, 490, 491, 492, 493, 494, 495, 496, 497, 498, 499, 500, 501, 502, 503, 504, 505, 506, 84, 85, 507, 508, 509, 510, 511, 512, 513, 514, 515, 516, 517, 518, 519, 520, 521, 35, 522, 94, 384, 523, 524, 525, 526, 92, 93, 527, 528, 529, 530, 531, 532, 533, 534, 535, 536, 537, 538, 539, 540, 541, 542, 543, 544, 54, 545, 546, 399, 400, 401, 547, 548, 549, 550, 551, 552, 553, 554, 555, 556, 557, 558, 559, 560, 561, 562, 563, 564, 565, 1417, 1418, 1419, 1420, 1421, 1422, 1423, 1424, 1425, 1426, 1427, 1428, 1429, 1491, 1492, 1493, 1494, 1495, 1496, 1499, 1500, 1501, 1502, 1503, 1504, 1505, 1506, 1507, 1508, 1509, 1510, 1511, 1512, 1513, 1514, 1515] (by decide +kernel) (by decide +kernel)
set_option maxRecDepth 20000 in
theorem gL_law_X10_pick : GoodIn wsL_law (wsV RL 130 RX10 yX10_pick wsX10_pick) := goodIn_app (goodIn_of _ (by decide +kernel)) ggL_law_X10_pick
set_option maxRecDepth 20000 in
theorem ggL_law_X11_pick : GoodIn wsL_law wsX11_pick := goodIn_r _ [1080, 180, 571, 146, 147, 603, 604, 605, 5, 606, 333, 651, 652, 653, 1430, 1431, 1432, 1433, 1434, 1435, 1436, 1437, 1438, 1439, 1440, 1441, 1442, 1443, 1444, 1445, 1446, 1447, 1448, 1449, 1450, 1451, 1452, 1453, 1454, 1455, 1456, 1457, 1458, 1459, 1460, 1461, 1462, 1463, 1464, 1465, 1466, 1467, 1468, 1469, 1470, 1471, 1472, 1473, 1474, 1475, 1476, 1477, 1478, 1479, 1480, 1481] (by decide +kernel) (by decide +kernel)
set_option maxRecDepth 20000 in
theorem gL_law_X11_pick : GoodIn wsL_law (wsV RL 133 RX11 yX11_pick wsX11_pick) := goodIn_app (goodIn_of _ (by decide +kernel)) ggL_law_X11_pick
set_option maxRecDepth 20000 in
theorem ggL_law_X10_unpick : GoodIn wsL_law wsX10_unpick := goodIn_r _ [1084, 389, 385, 386, 387, 2, 388, 37, 380, 381, 382, 35, 383, 384, 1417, 1418, 1419, 1420, 1421, 1422, 1423, 1424, 1425, 1426, 1427, 1428, 1429, 1512, 1513, 1514, 1515] (by decide +kernel) (by decide +kernel)
set_option maxRecDepth 20000 in
theorem gL_law_X10_unpick : GoodIn wsL_law (wsV RL 134 RX10 yX10_unpick wsX10_unpick) := goodIn_app (goodIn_of _ (by decide +kernel)) ggL_law_X10_unpick
set_option maxRecDepth 20000 in
theorem ggL_law_X11_unpick : GoodIn wsL_law wsX11_unpick := goodIn_r _ [1088, 180, 571, 1430, 1431, 1432, 1433, 1434, 1435, 1436, 1437, 1438, 1439, 1440, 1441, 1442, 1443, 1444, 1445, 1446, 1447, 1448, 1449, 1450, 1451, 1452, 1453, 1454, 1455, 1456, 1457, 1458, 1459, 1460, 1461, 1462, 1463, 1464, 1465, 1466, 1467, 1468, 1469, 1470, 1471, 1472, 1473, 1474, 1475, 1476, 1477, 1478, 1479, 1480, 1481] (by decide +kernel) (by decide +kernel)
set_option maxRecDepth 20000 in
theorem gL_law_X11_unpick : GoodIn wsL_law (wsV RL 137 RX11 yX11_unpick wsX11_unpick) := goodIn_app (goodIn_of _ (by decide +kernel)) ggL_law_X11_unpick
set_option maxRecDepth 20000 in
theorem ggL_law_X10_rank : GoodIn wsL_law wsX10_rank := goodIn_r _ [1092, 41, 1093, 1094, 1095, 1096, 2, 1097, 389, 37, 1098, 1099, 1100, 40, 1101, 1102, 1103, 1104, 1105, 1106, 1107, 1108, 98, 100, 99, 1109, 1110, 1111, 1112, 1113, 563, 564, 35, 565, 384, 94, 1114, 1115, 1116, 1117, 1118, 1119, 1120, 1121, 1122, 101, 1123, 1124, 537, 1125, 481, 482, 483, 484, 409, 485, 1417, 1418, 1419, 1420, 1421, 1422, 1423, 1424, 1425, 1426, 1427, 1428, 1429, 1516, 1517, 1518, 1519, 1520, 1521, 1522, 1512, 1513, 1514, 1515] (by decide +kernel) (by decide +kernel)
set_option maxRecDepth 20000 in
theorem gL_law_X10_rank : GoodIn wsL_law (wsV RL 138 RX10 yX10_rank wsX10_rank) := goodIn_app (goodIn_of _ (by decide +kernel)) ggL_law_X10_rank
set_option maxRecDepth 20000 in
theorem ggL_law_X11_rank : GoodIn wsL_law wsX11_rank := goodIn_r _ [1129, 180, 571, 1130, 1131, 1132, 5, 1133, 146, 147, 754, 755, 756, 757, 758, 141, 654, 655, 656, 657, 645, 646, 647, 648, 649, 650, 658, 659, 660, 661, 662, 663, 338, 339, 340, 341, 342, 343, 344, 345, 134, 346, 347, 348, 664, 665, 666, 667, 668, 669, 670, 137, 671, 672, 673, 674, 610, 611, 612, 613, 614, 408, 409, 410, 334, 335, 336, 337, 349, 350, 351, 675, 676, 677, 678, 679, 680, 681, 682, 683, 684, 685, 686, 687, 688, 689, 135, 136, 690, 691, 692, 693, 628, 694, 695, 517, 696, 697, 698, 699, 759, 760, 761, 762, 763, 764, 765, 766, 138, 139, 140, 767, 768, 769, 770, 771, 772, 773, 774, 142, 1134, 1135, 1136, 1137, 1138, 1139, 1140, 1141, 1142, 151, 148, 149, 150, 1143, 1144, 1145, 1146, 152, 800, 801, 802, 803, 1147, 1148, 1149, 1150, 1430, 1431, 1432, 1433, 1434, 1435, 1436, 1437, 1438, 1439, 1440, 1441, 1442, 1443, 1444, 1445, 1446, 1447, 1448, 1449, 1450, 1451, 1452, 1453, 1454, 1455, 1456, 1457, 1458, 1459, 1460, 1461, 1462, 1463, 1464, 1465, 1466, 1467, 1468, 1469, 1470, 1471, 1472, 1473, 1474, 1475, 1476, 1477, 1478, 1479, 1480, 1481] (by decide +kernel) (by decide +kernel)
set_option maxRecDepth 20000 in
theorem gL_law_X11_rank : GoodIn wsL_law (wsV RL 141 RX11 yX11_rank wsX11_rank) := goodIn_app (goodIn_of _ (by decide +kernel)) ggL_law_X11_rank
set_option maxRecDepth 20000 in
theorem ggL_law_X10_relation : GoodIn wsL_law wsX10_relation := goodIn_r _ [1154, 389, 577, 41, 1094, 1095, 1096, 2, 1097, 37, 1098, 1099, 1100, 40, 1101, 1102, 1103, 1104, 1105, 1106, 1107, 1108, 98, 100, 99, 1109, 1110, 1111, 1112, 1113, 563, 564, 35, 565, 384, 94, 1114, 1115, 1116, 1117, 1118, 1119, 1120, 1121, 1122, 101, 1123, 1124, 537, 1125, 481, 482, 483, 484, 409, 485, 1155, 1156, 1157, 1158, 1159, 1160, 1161, 1162, 1417, 1418, 1419, 1420, 1421, 1422, 1423, 1424, 1425, 1426, 1427, 1428, 1429, 1516, 1517, 1518, 1519, 1520, 1521, 1522, 1512, 1513, 1514, 1515] (by decide +kernel) (by decide +kernel)
set_option maxRecDepth 20000 in
theorem gL_law_X10_relation : GoodIn wsL_law (wsV RL 142 RX10 yX10_relation wsX10_relation) := goodIn_app (goodIn_of _ (by decide +kernel)) ggL_law_X10_relation
set_option maxRecDepth 20000 in
theorem ggL_law_X11_relation : GoodIn wsL_law wsX11_relation := goodIn_r _ [1166, 180, 571, 582, 153, 1130, 1131, 1132, 5, 1133, 146, 147, 754, 755, 756, 757, 758, 141, 654, 655, 656, 657, 645, 646, 647, 648, 649, 650, 658, 659, 660, 661, 662, 663, 338, 339, 340, 341, 342, 343, 344, 345, 134, 346, 347, 348, 664, 665, 666, 667, 668, 669, 670, 137, 671, 672, 673, 674, 610, 611, 612, 613, 614, 408, 409, 410, 334, 335, 336, 337, 349, 350, 351, 675, 676, 677, 678, 679, 680, 681, 682, 683, 684, 685, 686, 687, 688, 689, 135, 136, 690, 691, 692, 693, 628, 694, 695, 517, 696, 697, 698, 699, 759, 760, 761, 762, 763, 764, 765, 766, 138, 139, 140, 767, 768, 769, 770, 771, 772, 773, 774, 142, 1167, 1168, 1169, 1170, 1138, 151, 148, 1139, 1140, 1141, 1142, 149, 150, 1143, 1144, 1145, 1146, 152, 800, 801, 802, 803, 1147, 1148, 1149, 1150, 1171, 1172, 1173, 1174, 1175, 1176, 1177, 1178, 1179, 1430, 1431, 1432, 1433, 1434, 1435, 1436, 1437, 1438, 1439, 1440, 1441, 1442, 1443, 1444, 1445, 1446, 1447, 1448, 1449, 1450, 1451, 1452, 1453, 1454, 1455, 1456, 1457, 1458, 1459, 1460, 1461, 1462, 1463, 1464, 1465, 1466, 1467, 1468, 1469, 1470, 1471, 1472, 1473, 1474, 1475, 1476, 1477, 1478, 1479, 1480, 1481] (by decide +kernel) (by decide +kernel)
set_option maxRecDepth 20000 in
theorem gL_law_X11_relation : GoodIn wsL_law (wsV RL 145 RX11 yX11_relation wsX11_relation) := goodIn_app (goodIn_of _ (by decide +kernel)) ggL_law_X11_relation
set_option maxRecDepth 20000 in
theorem ggL_law_X10_rankOf : GoodIn wsL_law wsX10_rankOf := goodIn_r _ [1183, 41, 1093, 1184, 1185, 2, 1186, 1187, 1188, 1189, 1190, 36, 1098, 1099, 1100, 40, 1101, 1102, 1103, 1104, 1105, 1106, 1107, 1108, 98, 100, 99, 1109, 1110, 1111, 1112, 1113, 563, 564, 35, 565, 384, 94, 1114, 1115, 1116, 1117, 1118, 1119, 1120, 1121, 1122, 101, 1123, 1124, 537, 1125, 481, 482, 483, 484, 409, 485, 1417, 1418, 1419, 1420, 1421, 1422, 1423, 1424, 1425, 1426, 1427, 1428, 1429, 1516, 1517, 1518, 1519, 1520, 1521, 1522, 1512, 1513, 1514, 1515] (by decide +kernel) (by decide +kernel)
set_option maxRecDepth 20000 in
theorem gL_law_X10_rankOf : GoodIn wsL_law (wsV RL 146 RX10 yX10_rankOf wsX10_rankOf) := goodIn_app (goodIn_of _ (by decide +kernel)) ggL_law_X10_rankOf
set_option maxRecDepth 20000 in
theorem ggL_law_X11_rankOf : GoodIn wsL_law wsX11_rankOf := goodIn_r _ [1194, 180, 1195, 607, 608, 5, 609, 1196, 1197, 1198, 1199, 750, 751, 752, 753, 333, 134, 754, 755, 756, 757, 758, 141, 654, 655, 656, 657, 645, 646, 647, 648, 649, 650, 658, 659, 660, 661, 662, 663, 338, 339, 340, 341, 342, 343, 344, 345, 346, 347, 348, 664, 665, 666, 667, 668, 669, 670, 137, 671, 672, 673, 674, 610, 611, 612, 613, 614, 408, 409, 410, 334, 335, 336, 337, 349, 350, 351, 675, 676, 677, 678, 679, 680, 681, 682, 683, 684, 685, 686, 687, 688, 689, 135, 136, 690, 691, 692, 693, 628, 694, 695, 517, 696, 697, 698, 699, 759, 760, 761, 762, 763, 764, 765, 766, 138, 139, 140, 767, 768, 769, 770, 771, 772, 773, 774, 142, 1134, 1135, 1136, 1137, 1138, 1139, 1140, 1141, 1142, 151, 148, 149, 150, 1143, 1144, 1145, 1146, 152, 800, 801, 802, 803, 1147, 1148, 1149, 1150, 1430, 1431, 1432, 1433, 1434, 1435, 1436, 1437, 1438, 1439, 1440, 1441, 1442, 1443, 1444, 1445, 1446, 1447, 1448, 1449, 1450, 1451, 1452, 1453, 1454, 1455, 1456, 1457, 1458, 1459, 1460, 1461, 1462, 1463, 1464, 1465, 1466, 1467, 1468, 1469, 1470, 1471, 1472, 1473, 1474, 1475, 1476, 1477, 1478, 1479, 1480, 1481] (by decide +kernel) (by decide +kernel)
set_option maxRecDepth 20000 in
theorem gL_law_X11_rankOf : GoodIn wsL_law (wsV RL 149 RX11 yX11_rankOf wsX11_rankOf) := goodIn_app (goodIn_of _ (by decide +kernel)) ggL_law_X11_rankOf
set_option maxRecDepth 20000 in
theorem ggL_law_X10_relationOf : GoodIn wsL_law wsX10_relationOf := goodIn_r _ [1203, 577, 41, 1184, 1185, 2, 1186, 712, 713, 714, 1187, 1188, 1189, 1190, 36, 1098, 1099, 1100, 40, 1101, 1102, 1103, 1104, 1105, 1106, 1107, 1108, 98, 100, 99, 1109, 1110, 1111, 1112, 1113, 563, 564, 35, 565, 384, 94, 1114, 1115, 1116, 1117, 1118, 1119, 1120, 1121, 1122, 101, 1123, 1124, 537, 1125, 481, 482, 483, 484, 409, 485, 1155, 1156, 1157, 1158, 1204, 1205, 436, 1206, 1207, 1208, 1209, 1159, 1160, 1161, 1162, 1417, 1418, 1419, 1420, 1421, 1422, 1423, 1424, 1425, 1426, 1427, 1428, 1429, 1516, 1517, 1518, 1519, 1520, 1521, 1522, 1512, 1513, 1514, 1515] (by decide +kernel) (by decide +kernel)
set_option maxRecDepth 20000 in
theorem gL_law_X10_relationOf : GoodIn wsL_law (wsV RL 150 RX10 yX10_relationOf wsX10_relationOf) := goodIn_app (goodIn_of _ (by decide +kernel)) ggL_law_X10_relationOf
set_option maxRecDepth 20000 in
theorem ggL_law_X11_relationOf : GoodIn wsL_law wsX11_relationOf := goodIn_r _ [1213, 180, 1195, 582, 153, 607, 608, 5, 609, 735, 736, 737, 1196, 1197, 1198, 1199, 750, 751, 752, 753, 333, 134, 754, 755, 756, 757, 758, 141, 654, 655, 656, 657, 645, 646, 647, 648, 649, 650, 658, 659, 660, 661, 662, 663, 338, 339, 340, 341, 342, 343, 344, 345, 346, 347, 348, 664, 665, 666, 667, 668, 669, 670, 137, 671, 672, 673, 674, 610, 611, 612, 613, 614, 408, 409, 410, 334, 335, 336, 337, 349, 350, 351, 675, 676, 677, 678, 679, 680, 681, 682, 683, 684, 685, 686, 687, 688, 689, 135, 136, 690, 691, 692, 693, 628, 694, 695, 517, 696, 697, 698, 699, 759, 760, 761, 762, 763, 764, 765, 766, 138, 139, 140, 767, 768, 769, 770, 771, 772, 773, 774, 142, 1167, 1168, 1169, 1170, 1138, 151, 148, 1139, 1140, 1141, 1142, 149, 150, 1143, 1144, 1145, 1146, 152, 800, 801, 802, 803, 1147, 1148, 1149, 1150, 1171, 1172, 1173, 1174, 1175, 1176, 1177, 1178, 1179, 1430, 1431, 1432, 1433, 1434, 1435, 1436, 1437, 1438, 1439, 1440, 1441, 1442, 1443, 1444, 1445, 1446, 1447, 1448, 1449, 1450, 1451, 1452, 1453, 1454, 1455, 1456, 1457, 1458, 1459, 1460, 1461, 1462, 1463, 1464, 1465, 1466, 1467, 1468, 1469, 1470, 1471, 1472, 1473, 1474, 1475, 1476, 1477, 1478, 1479, 1480, 1481] (by decide +kernel) (by decide +kernel)
set_option maxRecDepth 20000 in
theorem gL_law_X11_relationOf : GoodIn wsL_law (wsV RL 153 RX11 yX11_relationOf wsX11_relationOf) := goodIn_app (goodIn_of _ (by decide +kernel)) ggL_law_X11_relationOf
set_option maxRecDepth 20000 in
theorem ggL_law_X10_multiples : GoodIn wsL_law wsX10_multiples := goodIn_r _ [1217, 1218, 36, 483, 484, 409, 485, 24, 712, 713, 2, 714, 781, 782, 783, 35, 784, 384, 562, 563, 564, 565, 94, 785, 1219, 481, 482, 1220, 1221, 1222, 1223, 715, 716, 717, 23, 718, 411, 71, 72, 1417, 1418, 1419, 1420, 1421, 1422, 1423, 1424, 1425, 1426, 1427, 1428, 1429, 1512, 1513, 1514, 1515, 1491, 1492, 1493, 1494, 1495, 1496] (by decide +kernel) (by decide +kernel)
set_option maxRecDepth 20000 in
theorem gL_law_X10_multiples : GoodIn wsL_law (wsV RL 154 RX10 yX10_multiples wsX10_multiples) := goodIn_app (goodIn_of _ (by decide +kernel)) ggL_law_X10_multiples
set_option maxRecDepth 20000 in
theorem ggL_law_X11_multiples : GoodIn wsL_law wsX11_multiples := goodIn_r _ [1227, 180, 628, 1228, 142, 141, 140, 138, 139, 735, 736, 5, 737, 607, 608, 609, 750, 751, 752, 753, 333, 134, 754, 755, 756, 757, 758, 654, 655, 656, 657, 645, 646, 647, 648, 649, 650, 658, 659, 660, 661, 662, 663, 338, 339, 340, 341, 342, 343, 344, 345, 346, 347, 348, 664, 665, 666, 667, 668, 669, 670, 137, 671, 672, 673, 674, 610, 611, 612, 613, 614, 408, 409, 410, 334, 335, 336, 337, 349, 350, 351, 675, 676, 677, 678, 679, 680, 681, 682, 683, 684, 685, 686, 687, 688, 689, 135, 136, 690, 691, 692, 693, 694, 695, 517, 696, 697, 698, 699, 759, 760, 761, 762, 763, 764, 765, 766, 767, 768, 769, 770, 771, 772, 773, 774, 738, 739, 740, 741, 1430, 1431, 1432, 1433, 1434, 1435, 1436, 1437, 1438, 1439, 1440, 1441, 1442, 1443, 1444, 1445, 1446, 1447, 1448, 1449, 1450, 1451, 1452, 1453, 1454, 1455, 1456, 1457, 1458, 1459, 1460, 1461, 1462, 1463, 1464, 1465, 1466, 1467, 1468, 1469, 1470, 1471, 1472, 1473, 1474, 1475, 1476, 1477, 1478, 1479, 1480, 1481] (by decide +kernel) (by decide +kernel)
set_option maxRecDepth 20000 in
theorem gL_law_X11_multiples : GoodIn wsL_law (wsV RL 158 RX11 yX11_multiples wsX11_multiples) := goodIn_app (goodIn_of _ (by decide +kernel)) ggL_law_X11_multiples
set_option maxRecDepth 20000 in
theorem ggL_law_X10_plan : GoodIn wsL_law wsX10_plan := goodIn_r _ [1232, 53, 576, 1233, 1234, 52, 1235, 1236, 1237, 1238, 1239, 1240, 1241, 1242, 124, 125, 1243, 1244, 1245, 1246, 1247, 1248, 537, 1249, 1250, 1251, 1252, 1253, 121, 1254, 1255, 1256, 1257, 126, 1258, 1259, 1260, 1261, 1262, 1263, 1264, 1265, 120, 123, 119, 1417, 1418, 1419, 1420, 1421, 1422, 1423, 1424, 1425, 1426, 1427, 1428, 1429, 1534, 1535, 1536, 1537, 1538, 1539, 1540, 1541, 1542, 1543] (by decide +kernel) (by decide +kernel)
set_option maxRecDepth 20000 in
theorem gL_law_X10_plan : GoodIn wsL_law (wsV RL 159 RX10 yX10_plan wsX10_plan) := goodIn_app (goodIn_of _ (by decide +kernel)) ggL_law_X10_plan
set_option maxRecDepth 20000 in
theorem ggL_law_X11_plan : GoodIn wsL_law wsX11_plan := goodIn_r _ [1269, 180, 1270, 154, 159, 155, 158, 157, 156, 1271, 1272, 5, 1273, 1274, 607, 608, 609, 1275, 1276, 1277, 1278, 1279, 1280, 1281, 1282, 160, 1283, 1284, 1285, 1286, 1430, 1431, 1432, 1433, 1434, 1435, 1436, 1437, 1438, 1439, 1440, 1441, 1442, 1443, 1444, 1445, 1446, 1447, 1448, 1449, 1450, 1451, 1452, 1453, 1454, 1455, 1456, 1457, 1458, 1459, 1460, 1461, 1462, 1463, 1464, 1465, 1466, 1467, 1468, 1469, 1470, 1471, 1472, 1473, 1474, 1475, 1476, 1477, 1478, 1479, 1480, 1481] (by decide +kernel) (by decide +kernel)
set_option maxRecDepth 20000 in
theorem gL_law_X11_plan : GoodIn wsL_law (wsV RL 163 RX11 yX11_plan wsX11_plan) := goodIn_app (goodIn_of _ (by decide +kernel)) ggL_law_X11_plan
set_option maxRecDepth 20000 in
theorem ggL_law_X10_step : GoodIn wsL_law wsX10_step := goodIn_r _ [1290, 53, 576, 577, 1291, 1292, 1293, 52, 1294, 120, 1417, 1418, 1419, 1420, 1421, 1422, 1423, 1424, 1425, 1426, 1427, 1428, 1429, 1534, 1535, 1536, 1537, 1538, 1539, 1540, 1541, 1542, 1543] (by decide +kernel) (by decide +kernel)
set_option maxRecDepth 20000 in
theorem gL_law_X10_step : GoodIn wsL_law (wsV RL 164 RX10 yX10_step wsX10_step) := goodIn_app (goodIn_of _ (by decide +kernel)) ggL_law_X10_step
set_option maxRecDepth 20000 in
theorem ggL_law_X11_step : GoodIn wsL_law wsX11_step := goodIn_r _ [1298, 180, 159, 628, 582, 607, 608, 5, 609, 1299, 1300, 1301, 1302, 157, 1430, 1431, 1432, 1433, 1434, 1435, 1436, 1437, 1438, 1439, 1440, 1441, 1442, 1443, 1444, 1445, 1446, 1447, 1448, 1449, 1450, 1451, 1452, 1453, 1454, 1455, 1456, 1457, 1458, 1459, 1460, 1461, 1462, 1463, 1464, 1465, 1466, 1467, 1468, 1469, 1470, 1471, 1472, 1473, 1474, 1475, 1476, 1477, 1478, 1479, 1480, 1481] (by decide +kernel) (by decide +kernel)
set_option maxRecDepth 20000 in
theorem gL_law_X11_step : GoodIn wsL_law (wsV RL 167 RX11 yX11_step wsX11_step) := goodIn_app (goodIn_of _ (by decide +kernel)) ggL_law_X11_step
set_option maxRecDepth 20000 in
theorem ggL_law_X10_side : GoodIn wsL_law wsX10_side := goodIn_r _ [1306, 53, 577, 1307, 1308, 1309, 1310, 52, 1311, 119, 1312, 1313, 1314, 1315, 123, 121, 1316, 399, 400, 401, 122, 1317, 1318, 1319, 1320, 1321, 1292, 1293, 1294, 120, 1417, 1418, 1419, 1420, 1421, 1422, 1423, 1424, 1425, 1426, 1427, 1428, 1429, 1534, 1535, 1536, 1537, 1538, 1539, 1540, 1541, 1542, 1543] (by decide +kernel) (by decide +kernel)
set_option maxRecDepth 20000 in
theorem gL_law_X10_side : GoodIn wsL_law (wsV RL 168 RX10 yX10_side wsX10_side) := goodIn_app (goodIn_of _ (by decide +kernel)) ggL_law_X10_side
set_option maxRecDepth 20000 in
theorem ggL_law_X11_side : GoodIn wsL_law wsX11_side := goodIn_r _ [1325, 180, 159, 628, 158, 582, 607, 608, 5, 609, 1430, 1431, 1432, 1433, 1434, 1435, 1436, 1437, 1438, 1439, 1440, 1441, 1442, 1443, 1444, 1445, 1446, 1447, 1448, 1449, 1450, 1451, 1452, 1453, 1454, 1455, 1456, 1457, 1458, 1459, 1460, 1461, 1462, 1463, 1464, 1465, 1466, 1467, 1468, 1469, 1470, 1471, 1472, 1473, 1474, 1475, 1476, 1477, 1478, 1479, 1480, 1481] (by decide +kernel) (by decide +kernel)
set_option maxRecDepth 20000 in
theorem gL_law_X11_side : GoodIn wsL_law (wsV RL 171 RX11 yX11_side wsX11_side) := goodIn_app (goodIn_of _ (by decide +kernel)) ggL_law_X11_side
set_option maxRecDepth 20000 in
theorem ggL_law_X10_cube : GoodIn wsL_law wsX10_cube := goodIn_r _ [1329, 53, 577, 1330, 1308, 1309, 1310, 52, 1311, 119, 1331, 1332, 1333, 1334, 123, 1312, 1313, 1314, 1315, 121, 1316, 399, 400, 401, 122, 1317, 1318, 1319, 1320, 1321, 1292, 1293, 1294, 120, 1417, 1418, 1419, 1420, 1421, 1422, 1423, 1424, 1425, 1426, 1427, 1428, 1429, 1534, 1535, 1536, 1537, 1538, 1539, 1540, 1541, 1542, 1543] (by decide +kernel) (by decide +kernel)
set_option maxRecDepth 20000 in
theorem gL_law_X10_cube : GoodIn wsL_law (wsV RL 172 RX10 yX10_cube wsX10_cube) := goodIn_app (goodIn_of _ (by decide +kernel)) ggL_law_X10_cube
set_option maxRecDepth 20000 in
theorem ggL_law_X11_cube : GoodIn wsL_law wsX11_cube := goodIn_r _ [1338, 180, 159, 628, 158, 582, 161, 607, 608, 5, 609, 1339, 1340, 1341, 1342, 1299, 1300, 1301, 1302, 157, 1430, 1431, 1432, 1433, 1434, 1435, 1436, 1437, 1438, 1439, 1440, 1441, 1442, 1443, 1444, 1445, 1446, 1447, 1448, 1449, 1450, 1451, 1452, 1453, 1454, 1455, 1456, 1457, 1458, 1459, 1460, 1461, 1462, 1463, 1464, 1465, 1466, 1467, 1468, 1469, 1470, 1471, 1472, 1473, 1474, 1475, 1476, 1477, 1478, 1479, 1480, 1481] (by decide +kernel) (by decide +kernel)
set_option maxRecDepth 20000 in
theorem gL_law_X11_cube : GoodIn wsL_law (wsV RL 175 RX11 yX11_cube wsX11_cube) := goodIn_app (goodIn_of _ (by decide +kernel)) ggL_law_X11_cube
