set_option maxRecDepth 20000 in
theorem ggX11_plan_X11_areSides : GoodIn wsX11_plan wsX11_areSides := goodIn_r _ [12, 13, 14, 15, 11, 16] (by decide +kernel) (by decide +kernel)
set_option maxRecDepth 20000 in
theorem gX11_plan_X11_areSides : GoodIn wsX11_plan (va_wsS RX11 457 yX11_areSides wsX11_areSides) := goodIn_app (goodIn_of _ (by decide +kernel)) ggX11_plan_X11_areSides
set_option maxRecDepth 20000 in
theorem ggX11_plan_X11_meetsBox : GoodIn wsX11_plan wsX11_meetsBox := goodIn_r _ [20, 2, 3, 5, 8, 30, 31, 32, 33, 34, 35, 36, 37, 38, 39, 40, 41, 42, 43, 44, 45, 46, 47, 48, 49, 50, 51, 52, 53, 54, 55, 56, 57, 58, 59, 60, 61, 62, 63, 64, 65, 66, 67, 68, 69, 70, 71, 72, 73, 74, 75, 76, 77, 78, 79, 80, 81] (by decide +kernel) (by decide +kernel)
set_option maxRecDepth 20000 in
theorem gX11_plan_X11_meetsBox : GoodIn wsX11_plan (wsV RX11 454 RX11 yX11_meetsBox wsX11_meetsBox) := goodIn_app (goodIn_of _ (by decide +kernel)) ggX11_plan_X11_meetsBox
set_option maxRecDepth 20000 in
theorem ggX11_plan_X11_goesFrom : GoodIn wsX11_plan wsX11_goesFrom := goodIn_r _ [24, 25, 3, 26, 27, 28, 11, 29, 17, 18, 19, 20, 2, 5, 8, 30, 31, 32, 33, 34, 35, 36, 37, 38, 39, 40, 41, 42, 43, 44, 45, 46, 47, 48, 49, 50, 51, 52, 53, 54, 55, 56, 57, 58, 59, 60, 61, 62, 63, 64, 65, 66, 67, 68, 69, 70, 71, 72, 73, 74, 75, 76, 77, 78, 79, 80, 81] (by decide +kernel) (by decide +kernel)
set_option maxRecDepth 20000 in
theorem gX11_plan_X11_goesFrom : GoodIn wsX11_plan (wsV RX11 460 RX11 yX11_goesFrom wsX11_goesFrom) := goodIn_app (goodIn_of _ (by decide +kernel)) ggX11_plan_X11_goesFrom
theorem dX11_plan_0 : decode cX11_plan 0 = .ok (.aload_n 0, 1) := by decide +kernel
theorem dX11_plan_1 : decode cX11_plan 1 = .ok (.iconst 0, 1) := by decide +kernel
theorem dX11_plan_2 : decode cX11_plan 2 = .ok (.putfield 106, 3) := by decide +kernel
theorem dX11_plan_5 : decode cX11_plan 5 = .ok (.iload_n 1, 1) := by decide +kernel
theorem dX11_plan_6 : decode cX11_plan 6 = .ok (.iload_n 2, 1) := by decide +kernel
theorem dX11_plan_7 : decode cX11_plan 7 = .ok (.iload_n 3, 1) := by decide +kernel
theorem dX11_plan_8 : decode cX11_plan 8 = .ok (.invokestatic 457, 3) := by decide +kernel
theorem dX11_plan_11 : decode cX11_plan 11 = .ok (.ifCond .eq 26, 3) := by decide +kernel
theorem dX11_plan_14 : decode cX11_plan 14 = .ok (.iload 4, 2) := by decide +kernel
theorem dX11_plan_16 : decode cX11_plan 16 = .ok (.iload 5, 2) := by decide +kernel
theorem dX11_plan_18 : decode cX11_plan 18 = .ok (.iload 6, 2) := by decide +kernel
theorem dX11_plan_20 : decode cX11_plan 20 = .ok (.invokestatic 457, 3) := by decide +kernel
theorem dX11_plan_23 : decode cX11_plan 23 = .ok (.ifCond .eq 14, 3) := by decide +kernel
theorem dX11_plan_26 : decode cX11_plan 26 = .ok (.iload_n 1, 1) := by decide +kernel
theorem dX11_plan_27 : decode cX11_plan 27 = .ok (.iload_n 2, 1) := by decide +kernel
theorem dX11_plan_28 : decode cX11_plan 28 = .ok (.imul, 1) := by decide +kernel
theorem dX11_plan_29 : decode cX11_plan 29 = .ok (.iload_n 3, 1) := by decide +kernel
theorem dX11_plan_30 : decode cX11_plan 30 = .ok (.imul, 1) := by decide +kernel
theorem dX11_plan_31 : decode cX11_plan 31 = .ok (.sipush 1728, 3) := by decide +kernel
theorem dX11_plan_34 : decode cX11_plan 34 = .ok (.if_icmp .le 6, 3) := by decide +kernel
theorem dX11_plan_37 : decode cX11_plan 37 = .ok (.bipush (-2), 2) := by decide +kernel
theorem dX11_plan_39 : decode cX11_plan 39 = .ok (.ireturn, 1) := by decide +kernel
theorem dX11_plan_40 : decode cX11_plan 40 = .ok (.iload_n 1, 1) := by decide +kernel
theorem dX11_plan_41 : decode cX11_plan 41 = .ok (.iload_n 2, 1) := by decide +kernel
theorem dX11_plan_42 : decode cX11_plan 42 = .ok (.imul, 1) := by decide +kernel
theorem dX11_plan_43 : decode cX11_plan 43 = .ok (.iload_n 3, 1) := by decide +kernel
theorem dX11_plan_44 : decode cX11_plan 44 = .ok (.imul, 1) := by decide +kernel
theorem dX11_plan_45 : decode cX11_plan 45 = .ok (.iload 4, 2) := by decide +kernel
theorem dX11_plan_47 : decode cX11_plan 47 = .ok (.iload 5, 2) := by decide +kernel
theorem dX11_plan_49 : decode cX11_plan 49 = .ok (.imul, 1) := by decide +kernel
theorem dX11_plan_50 : decode cX11_plan 50 = .ok (.iload 6, 2) := by decide +kernel
theorem dX11_plan_52 : decode cX11_plan 52 = .ok (.imul, 1) := by decide +kernel
theorem dX11_plan_53 : decode cX11_plan 53 = .ok (.if_icmp .eq 6, 3) := by decide +kernel
theorem dX11_plan_56 : decode cX11_plan 56 = .ok (.bipush (-3), 2) := by decide +kernel
theorem dX11_plan_58 : decode cX11_plan 58 = .ok (.ireturn, 1) := by decide +kernel
theorem dX11_plan_59 : decode cX11_plan 59 = .ok (.aload_n 0, 1) := by decide +kernel
theorem dX11_plan_60 : decode cX11_plan 60 = .ok (.iconst 0, 1) := by decide +kernel
theorem dX11_plan_61 : decode cX11_plan 61 = .ok (.putfield 448, 3) := by decide +kernel
theorem dX11_plan_64 : decode cX11_plan 64 = .ok (.aload_n 0, 1) := by decide +kernel
theorem dX11_plan_65 : decode cX11_plan 65 = .ok (.iload_n 1, 1) := by decide +kernel
theorem dX11_plan_66 : decode cX11_plan 66 = .ok (.iload_n 2, 1) := by decide +kernel
theorem dX11_plan_67 : decode cX11_plan 67 = .ok (.iload_n 3, 1) := by decide +kernel
theorem dX11_plan_68 : decode cX11_plan 68 = .ok (.iconst (-1), 1) := by decide +kernel
theorem dX11_plan_69 : decode cX11_plan 69 = .ok (.iconst 0, 1) := by decide +kernel
theorem dX11_plan_70 : decode cX11_plan 70 = .ok (.invokevirtual 454, 3) := by decide +kernel
theorem dX11_plan_73 : decode cX11_plan 73 = .ok (.iconst 0, 1) := by decide +kernel
theorem dX11_plan_74 : decode cX11_plan 74 = .ok (.istore 7, 2) := by decide +kernel
theorem dX11_plan_76 : decode cX11_plan 76 = .ok (.iload 7, 2) := by decide +kernel
theorem dX11_plan_78 : decode cX11_plan 78 = .ok (.aload_n 0, 1) := by decide +kernel
theorem dX11_plan_79 : decode cX11_plan 79 = .ok (.getfield 448, 3) := by decide +kernel
theorem dX11_plan_82 : decode cX11_plan 82 = .ok (.if_icmp .ge 61, 3) := by decide +kernel
theorem dX11_plan_85 : decode cX11_plan 85 = .ok (.aload_n 0, 1) := by decide +kernel
theorem dX11_plan_86 : decode cX11_plan 86 = .ok (.getfield 78, 3) := by decide +kernel
theorem dX11_plan_89 : decode cX11_plan 89 = .ok (.iconst 3, 1) := by decide +kernel
theorem dX11_plan_90 : decode cX11_plan 90 = .ok (.iload 7, 2) := by decide +kernel
theorem dX11_plan_92 : decode cX11_plan 92 = .ok (.imul, 1) := by decide +kernel
theorem dX11_plan_93 : decode cX11_plan 93 = .ok (.iaload, 1) := by decide +kernel
theorem dX11_plan_94 : decode cX11_plan 94 = .ok (.iload 4, 2) := by decide +kernel
theorem dX11_plan_96 : decode cX11_plan 96 = .ok (.if_icmp .ne 35, 3) := by decide +kernel
theorem dX11_plan_99 : decode cX11_plan 99 = .ok (.aload_n 0, 1) := by decide +kernel
theorem dX11_plan_100 : decode cX11_plan 100 = .ok (.getfield 78, 3) := by decide +kernel
theorem dX11_plan_103 : decode cX11_plan 103 = .ok (.iconst 3, 1) := by decide +kernel
theorem dX11_plan_104 : decode cX11_plan 104 = .ok (.iload 7, 2) := by decide +kernel
theorem dX11_plan_106 : decode cX11_plan 106 = .ok (.imul, 1) := by decide +kernel
theorem dX11_plan_107 : decode cX11_plan 107 = .ok (.iconst 1, 1) := by decide +kernel
theorem dX11_plan_108 : decode cX11_plan 108 = .ok (.iadd, 1) := by decide +kernel
theorem dX11_plan_109 : decode cX11_plan 109 = .ok (.iaload, 1) := by decide +kernel
theorem dX11_plan_110 : decode cX11_plan 110 = .ok (.iload 5, 2) := by decide +kernel
theorem dX11_plan_112 : decode cX11_plan 112 = .ok (.if_icmp .ne 19, 3) := by decide +kernel
theorem dX11_plan_115 : decode cX11_plan 115 = .ok (.aload_n 0, 1) := by decide +kernel
theorem dX11_plan_116 : decode cX11_plan 116 = .ok (.getfield 78, 3) := by decide +kernel
theorem dX11_plan_119 : decode cX11_plan 119 = .ok (.iconst 3, 1) := by decide +kernel
theorem dX11_plan_120 : decode cX11_plan 120 = .ok (.iload 7, 2) := by decide +kernel
theorem dX11_plan_122 : decode cX11_plan 122 = .ok (.imul, 1) := by decide +kernel
theorem dX11_plan_123 : decode cX11_plan 123 = .ok (.iconst 2, 1) := by decide +kernel
theorem dX11_plan_124 : decode cX11_plan 124 = .ok (.iadd, 1) := by decide +kernel
theorem dX11_plan_125 : decode cX11_plan 125 = .ok (.iaload, 1) := by decide +kernel
theorem dX11_plan_126 : decode cX11_plan 126 = .ok (.iload 6, 2) := by decide +kernel
theorem dX11_plan_128 : decode cX11_plan 128 = .ok (.if_icmp .eq 15, 3) := by decide +kernel
theorem dX11_plan_131 : decode cX11_plan 131 = .ok (.aload_n 0, 1) := by decide +kernel
theorem dX11_plan_132 : decode cX11_plan 132 = .ok (.iload 7, 2) := by decide +kernel
theorem dX11_plan_134 : decode cX11_plan 134 = .ok (.invokevirtual 460, 3) := by decide +kernel
theorem dX11_plan_137 : decode cX11_plan 137 = .ok (.iinc 7 1, 3) := by decide +kernel
theorem dX11_plan_140 : decode cX11_plan 140 = .ok (.goto (-64), 3) := by decide +kernel
theorem dX11_plan_143 : decode cX11_plan 143 = .ok (.iload 7, 2) := by decide +kernel
theorem dX11_plan_145 : decode cX11_plan 145 = .ok (.aload_n 0, 1) := by decide +kernel
theorem dX11_plan_146 : decode cX11_plan 146 = .ok (.getfield 448, 3) := by decide +kernel
theorem dX11_plan_149 : decode cX11_plan 149 = .ok (.if_icmp .ne 5, 3) := by decide +kernel
theorem dX11_plan_152 : decode cX11_plan 152 = .ok (.iconst (-1), 1) := by decide +kernel
theorem dX11_plan_153 : decode cX11_plan 153 = .ok (.ireturn, 1) := by decide +kernel
theorem dX11_plan_154 : decode cX11_plan 154 = .ok (.aload_n 0, 1) := by decide +kernel
theorem dX11_plan_155 : decode cX11_plan 155 = .ok (.iconst 0, 1) := by decide +kernel
theorem dX11_plan_156 : decode cX11_plan 156 = .ok (.putfield 93, 3) := by decide +kernel
theorem dX11_plan_159 : decode cX11_plan 159 = .ok (.iload 7, 2) := by decide +kernel
theorem dX11_plan_161 : decode cX11_plan 161 = .ok (.istore 8, 2) := by decide +kernel
theorem dX11_plan_163 : decode cX11_plan 163 = .ok (.aload_n 0, 1) := by decide +kernel
theorem dX11_plan_164 : decode cX11_plan 164 = .ok (.getfield 81, 3) := by decide +kernel
theorem dX11_plan_167 : decode cX11_plan 167 = .ok (.iload 8, 2) := by decide +kernel
theorem dX11_plan_169 : decode cX11_plan 169 = .ok (.iaload, 1) := by decide +kernel
theorem dX11_plan_170 : decode cX11_plan 170 = .ok (.iconst (-1), 1) := by decide +kernel
theorem dX11_plan_171 : decode cX11_plan 171 = .ok (.if_icmp .eq 25, 3) := by decide +kernel
theorem dX11_plan_174 : decode cX11_plan 174 = .ok (.aload_n 0, 1) := by decide +kernel
theorem dX11_plan_175 : decode cX11_plan 175 = .ok (.dup, 1) := by decide +kernel
theorem dX11_plan_176 : decode cX11_plan 176 = .ok (.getfield 93, 3) := by decide +kernel
theorem dX11_plan_179 : decode cX11_plan 179 = .ok (.iconst 1, 1) := by decide +kernel
theorem dX11_plan_180 : decode cX11_plan 180 = .ok (.iadd, 1) := by decide +kernel
theorem dX11_plan_181 : decode cX11_plan 181 = .ok (.putfield 93, 3) := by decide +kernel
theorem dX11_plan_184 : decode cX11_plan 184 = .ok (.aload_n 0, 1) := by decide +kernel
theorem dX11_plan_185 : decode cX11_plan 185 = .ok (.getfield 81, 3) := by decide +kernel
theorem dX11_plan_188 : decode cX11_plan 188 = .ok (.iload 8, 2) := by decide +kernel
theorem dX11_plan_190 : decode cX11_plan 190 = .ok (.iaload, 1) := by decide +kernel
theorem dX11_plan_191 : decode cX11_plan 191 = .ok (.istore 8, 2) := by decide +kernel
theorem dX11_plan_193 : decode cX11_plan 193 = .ok (.goto (-30), 3) := by decide +kernel
theorem dX11_plan_196 : decode cX11_plan 196 = .ok (.aload_n 0, 1) := by decide +kernel
theorem dX11_plan_197 : decode cX11_plan 197 = .ok (.getfield 93, 3) := by decide +kernel
theorem dX11_plan_200 : decode cX11_plan 200 = .ok (.istore 8, 2) := by decide +kernel
theorem dX11_plan_202 : decode cX11_plan 202 = .ok (.iload 7, 2) := by decide +kernel
theorem dX11_plan_204 : decode cX11_plan 204 = .ok (.istore 9, 2) := by decide +kernel
theorem dX11_plan_206 : decode cX11_plan 206 = .ok (.iload 9, 2) := by decide +kernel
theorem dX11_plan_208 : decode cX11_plan 208 = .ok (.iconst (-1), 1) := by decide +kernel
theorem dX11_plan_209 : decode cX11_plan 209 = .ok (.if_icmp .eq 76, 3) := by decide +kernel
theorem dX11_plan_212 : decode cX11_plan 212 = .ok (.iconst 0, 1) := by decide +kernel
theorem dX11_plan_213 : decode cX11_plan 213 = .ok (.istore 10, 2) := by decide +kernel
theorem dX11_plan_215 : decode cX11_plan 215 = .ok (.iload 10, 2) := by decide +kernel
theorem dX11_plan_217 : decode cX11_plan 217 = .ok (.iconst 3, 1) := by decide +kernel
theorem dX11_plan_218 : decode cX11_plan 218 = .ok (.if_icmp .ge 33, 3) := by decide +kernel
theorem dX11_plan_221 : decode cX11_plan 221 = .ok (.aload_n 0, 1) := by decide +kernel
theorem dX11_plan_222 : decode cX11_plan 222 = .ok (.getfield 90, 3) := by decide +kernel
theorem dX11_plan_225 : decode cX11_plan 225 = .ok (.iconst 3, 1) := by decide +kernel
theorem dX11_plan_226 : decode cX11_plan 226 = .ok (.iload 8, 2) := by decide +kernel
theorem dX11_plan_228 : decode cX11_plan 228 = .ok (.imul, 1) := by decide +kernel
theorem dX11_plan_229 : decode cX11_plan 229 = .ok (.iload 10, 2) := by decide +kernel
theorem dX11_plan_231 : decode cX11_plan 231 = .ok (.iadd, 1) := by decide +kernel
theorem dX11_plan_232 : decode cX11_plan 232 = .ok (.aload_n 0, 1) := by decide +kernel
theorem dX11_plan_233 : decode cX11_plan 233 = .ok (.getfield 78, 3) := by decide +kernel
theorem dX11_plan_236 : decode cX11_plan 236 = .ok (.iconst 3, 1) := by decide +kernel
theorem dX11_plan_237 : decode cX11_plan 237 = .ok (.iload 9, 2) := by decide +kernel
theorem dX11_plan_239 : decode cX11_plan 239 = .ok (.imul, 1) := by decide +kernel
theorem dX11_plan_240 : decode cX11_plan 240 = .ok (.iload 10, 2) := by decide +kernel
theorem dX11_plan_242 : decode cX11_plan 242 = .ok (.iadd, 1) := by decide +kernel
theorem dX11_plan_243 : decode cX11_plan 243 = .ok (.iaload, 1) := by decide +kernel
theorem dX11_plan_244 : decode cX11_plan 244 = .ok (.iastore, 1) := by decide +kernel
theorem dX11_plan_245 : decode cX11_plan 245 = .ok (.iinc 10 1, 3) := by decide +kernel
theorem dX11_plan_248 : decode cX11_plan 248 = .ok (.goto (-33), 3) := by decide +kernel
theorem dX11_plan_251 : decode cX11_plan 251 = .ok (.iinc 8 (-1), 3) := by decide +kernel
theorem dX11_plan_254 : decode cX11_plan 254 = .ok (.iload 8, 2) := by decide +kernel
theorem dX11_plan_256 : decode cX11_plan 256 = .ok (.ifCond .lt 17, 3) := by decide +kernel
theorem dX11_plan_259 : decode cX11_plan 259 = .ok (.aload_n 0, 1) := by decide +kernel
theorem dX11_plan_260 : decode cX11_plan 260 = .ok (.getfield 87, 3) := by decide +kernel
theorem dX11_plan_263 : decode cX11_plan 263 = .ok (.iload 8, 2) := by decide +kernel
theorem dX11_plan_265 : decode cX11_plan 265 = .ok (.aload_n 0, 1) := by decide +kernel
theorem dX11_plan_266 : decode cX11_plan 266 = .ok (.getfield 84, 3) := by decide +kernel
theorem dX11_plan_269 : decode cX11_plan 269 = .ok (.iload 9, 2) := by decide +kernel
theorem dX11_plan_271 : decode cX11_plan 271 = .ok (.iaload, 1) := by decide +kernel
theorem dX11_plan_272 : decode cX11_plan 272 = .ok (.iastore, 1) := by decide +kernel
theorem dX11_plan_273 : decode cX11_plan 273 = .ok (.aload_n 0, 1) := by decide +kernel
theorem dX11_plan_274 : decode cX11_plan 274 = .ok (.getfield 81, 3) := by decide +kernel
theorem dX11_plan_277 : decode cX11_plan 277 = .ok (.iload 9, 2) := by decide +kernel
theorem dX11_plan_279 : decode cX11_plan 279 = .ok (.iaload, 1) := by decide +kernel
theorem dX11_plan_280 : decode cX11_plan 280 = .ok (.istore 9, 2) := by decide +kernel
theorem dX11_plan_282 : decode cX11_plan 282 = .ok (.goto (-76), 3) := by decide +kernel
theorem dX11_plan_285 : decode cX11_plan 285 = .ok (.aload_n 0, 1) := by decide +kernel
theorem dX11_plan_286 : decode cX11_plan 286 = .ok (.getfield 93, 3) := by decide +kernel
theorem dX11_plan_289 : decode cX11_plan 289 = .ok (.ireturn, 1) := by decide +kernel
set_option maxHeartbeats 4000000 in
set_option maxRecDepth 100000 in
theorem c_X11_plan (l : Launch) (dC : Nat → ClassId) (dI : Nat → Nat → Nat) (cB cI cJ : ClassId) (sz : Nat) (m0 m_tape m_read m_tets m_primes m_often m_normal m_termM m_termP m_termV m_sumFrom m_sumMany m_part m_fair m_heap m_pickTet m_pickEdge m_base m_baseM m_baseP m_rowsOf m_grid m_times m_boxes m_cameFrom m_cameBy m_steps m_sides m_next m_cube m_ways : Nat) (p0 p1 p2 p3 p4 p5 : Int32) : Met l yX11_plan wsX11_plan ({ frames := 3, cells := 0, slots := 0, locals := 75 }) (va_Pc [.ref m0, .int p0, .int p1, .int p2, .int p3, .int p4, .int p5] (fun U => U.heap.size = sz ∧ va_P (dC, dI) vwCl [(m0, .inr (11, [.int 0, .ref m_tape, .int 0, .int 0, .int 0, .ref m_read, .int 0, .int 0, .int 0, .ref m_tets, .int 0, .int 0, .int 0, .int 0, .int 0, .int 0, .int 0, .int 0, .ref m_primes, .ref m_often, .ref m_normal, .ref m_termM, .ref m_termP, .ref m_termV, .ref m_sumFrom, .ref m_sumMany, .int 0, .int 0, .int 0, .int 0, .ref m_part, .ref m_fair, .ref m_heap, .ref m_pickTet, .ref m_pickEdge, .ref m_base, .ref m_baseM, .ref m_baseP, .ref m_rowsOf, .int 0, .ref m_grid, .ref m_times, .ref m_boxes, .ref m_cameFrom, .ref m_cameBy, .ref m_steps, .ref m_sides, .int 0, .int (-1), .ref m_next, .ref m_cube, .ref m_ways])), (m_boxes, .inl (cI, 3600, (.inl (fun _ => 0)))), (m_cameFrom, .inl (cI, 1200, (.inl (fun _ => 0)))), (m_cameBy, .inl (cI, 1200, (.inl (fun _ => 0)))), (m_next, .inl (cI, 3, (.inl (fun _ => 0)))), (m_sides, .inl (cI, 183, (.inl (fun _ => 0)))), (m_steps, .inl (cI, 60, (.inl (fun _ => 0))))] U.heap ∧ va_K (dC, dI) vwCl [(cB, .byte), (cI, .int), (cJ, .long)] U ∧ va_D (fun _ => True) [(m0, .inr (11, [.int 0, .ref m_tape, .int 0, .int 0, .int 0, .ref m_read, .int 0, .int 0, .int 0, .ref m_tets, .int 0, .int 0, .int 0, .int 0, .int 0, .int 0, .int 0, .int 0, .ref m_primes, .ref m_often, .ref m_normal, .ref m_termM, .ref m_termP, .ref m_termV, .ref m_sumFrom, .ref m_sumMany, .int 0, .int 0, .int 0, .int 0, .ref m_part, .ref m_fair, .ref m_heap, .ref m_pickTet, .ref m_pickEdge, .ref m_base, .ref m_baseM, .ref m_baseP, .ref m_rowsOf, .int 0, .ref m_grid, .ref m_times, .ref m_boxes, .ref m_cameFrom, .ref m_cameBy, .ref m_steps, .ref m_sides, .int 0, .int (-1), .ref m_next, .ref m_cube, .ref m_ways])), (m_boxes, .inl (cI, 3600, (.inl (fun _ => 0)))), (m_cameFrom, .inl (cI, 1200, (.inl (fun _ => 0)))), (m_cameBy, .inl (cI, 1200, (.inl (fun _ => 0)))), (m_next, .inl (cI, 3, (.inl (fun _ => 0)))), (m_sides, .inl (cI, 183, (.inl (fun _ => 0)))), (m_steps, .inl (cI, 60, (.inl (fun _ => 0))))])) (va_Qi (fun (r : Int32) (_ : Unit) => pl_is r p0 p1 p2 p3 p4 p5) (fun _ _ => True) (va_A [(m0, .inr (11, [.int 0, .ref m_tape, .int 0, .int 0, .int 0, .ref m_read, .int 0, .int 0, .int 0, .ref m_tets, .int 0, .int 0, .int 0, .int 0, .int 0, .int 0, .int 0, .int 0, .ref m_primes, .ref m_often, .ref m_normal, .ref m_termM, .ref m_termP, .ref m_termV, .ref m_sumFrom, .ref m_sumMany, .int 0, .int 0, .int 0, .int 0, .ref m_part, .ref m_fair, .ref m_heap, .ref m_pickTet, .ref m_pickEdge, .ref m_base, .ref m_baseM, .ref m_baseP, .ref m_rowsOf, .int 0, .ref m_grid, .ref m_times, .ref m_boxes, .ref m_cameFrom, .ref m_cameBy, .ref m_steps, .ref m_sides, .int 0, .int (-1), .ref m_next, .ref m_cube, .ref m_ways])), (m_boxes, .inl (cI, 3600, (.inl (fun _ => 0)))), (m_cameFrom, .inl (cI, 1200, (.inl (fun _ => 0)))), (m_cameBy, .inl (cI, 1200, (.inl (fun _ => 0)))), (m_next, .inl (cI, 3, (.inl (fun _ => 0)))), (m_sides, .inl (cI, 183, (.inl (fun _ => 0)))), (m_steps, .inl (cI, 60, (.inl (fun _ => 0))))] sz)) 0 0 (va_A [(m0, .inr (11, [.int 0, .ref m_tape, .int 0, .int 0, .int 0, .ref m_read, .int 0, .int 0, .int 0, .ref m_tets, .int 0, .int 0, .int 0, .int 0, .int 0, .int 0, .int 0, .int 0, .ref m_primes, .ref m_often, .ref m_normal, .ref m_termM, .ref m_termP, .ref m_termV, .ref m_sumFrom, .ref m_sumMany, .int 0, .int 0, .int 0, .int 0, .ref m_part, .ref m_fair, .ref m_heap, .ref m_pickTet, .ref m_pickEdge, .ref m_base, .ref m_baseM, .ref m_baseP, .ref m_rowsOf, .int 0, .ref m_grid, .ref m_times, .ref m_boxes, .ref m_cameFrom, .ref m_cameBy, .ref m_steps, .ref m_sides, .int 0, .int (-1), .ref m_next, .ref m_cube, .ref m_ways])), (m_boxes, .inl (cI, 3600, (.inl (fun _ => 0)))), (m_cameFrom, .inl (cI, 1200, (.inl (fun _ => 0)))), (m_cameBy, .inl (cI, 1200, (.inl (fun _ => 0)))), (m_next, .inl (cI, 3, (.inl (fun _ => 0)))), (m_sides, .inl (cI, 183, (.inl (fun _ => 0)))), (m_steps, .inl (cI, 60, (.inl (fun _ => 0))))] sz) := by
  refine Met.ofW (cc := cX11_plan) (maxL := 11) (ret := (some .int)) (by decide) rfl ?_
  intro p e s m args below meth c s₁ B hml hv
  obtain ⟨rfl, hsz, hP, hK, hD0⟩ := hv
  have hx := B.exec
  have hb := B.bytes
  have hr := B.returns
  have hts := atoms_spec (ws := wsX11_plan) B.pre
  have hown : s.vm.findClass RX11 = some m.cls := findClass_of_methodNamed B.named
  have hlocks := B.notSynchronized
  have hiX11 : ∀ w ∈ u_ws RX11 TX11 52, w ∈ wsX11_plan := by decide +kernel
  subst hsz
  have hD := hD0.self (sz := s.heap.size)
  generalize hAe : va_A [(m0, .inr (11, [.int 0, .ref m_tape, .int 0, .int 0, .int 0, .ref m_read, .int 0, .int 0, .int 0, .ref m_tets, .int 0, .int 0, .int 0, .int 0, .int 0, .int 0, .int 0, .int 0, .ref m_primes, .ref m_often, .ref m_normal, .ref m_termM, .ref m_termP, .ref m_termV, .ref m_sumFrom, .ref m_sumMany, .int 0, .int 0, .int 0, .int 0, .ref m_part, .ref m_fair, .ref m_heap, .ref m_pickTet, .ref m_pickEdge, .ref m_base, .ref m_baseM, .ref m_baseP, .ref m_rowsOf, .int 0, .ref m_grid, .ref m_times, .ref m_boxes, .ref m_cameFrom, .ref m_cameBy, .ref m_steps, .ref m_sides, .int 0, .int (-1), .ref m_next, .ref m_cube, .ref m_ways])), (m_boxes, .inl (cI, 3600, (.inl (fun _ => 0)))), (m_cameFrom, .inl (cI, 1200, (.inl (fun _ => 0)))), (m_cameBy, .inl (cI, 1200, (.inl (fun _ => 0)))), (m_next, .inl (cI, 3, (.inl (fun _ => 0)))), (m_sides, .inl (cI, 183, (.inl (fun _ => 0)))), (m_steps, .inl (cI, 60, (.inl (fun _ => 0))))] s.heap.size = A at hD ⊢
  have hA : ∀ q : Nat, s.heap.size ≤ q → A q := fun q h => by rw [← hAe]; exact Or.inr h
  have hS : va_S A s.heap s.heap [] := va_S.rf
  have hP : va_P (dC, dI) vwCl [(m0, .inr (11, [.int 0, .ref m_tape, .int 0, .int 0, .int 0, .ref m_read, .int 0, .int 0, .int 0, .ref m_tets, .int 0, .int 0, .int 0, .int 0, .int 0, .int 0, .int 0, .int 0, .ref m_primes, .ref m_often, .ref m_normal, .ref m_termM, .ref m_termP, .ref m_termV, .ref m_sumFrom, .ref m_sumMany, .int 0, .int 0, .int 0, .int 0, .ref m_part, .ref m_fair, .ref m_heap, .ref m_pickTet, .ref m_pickEdge, .ref m_base, .ref m_baseM, .ref m_baseP, .ref m_rowsOf, .int 0, .ref m_grid, .ref m_times, .ref m_boxes, .ref m_cameFrom, .ref m_cameBy, .ref m_steps, .ref m_sides, .int 0, .int (-1), .ref m_next, .ref m_cube, .ref m_ways])), (m_boxes, .inl (cI, 3600, (.inl (fun _ => 0)))), (m_cameFrom, .inl (cI, 1200, (.inl (fun _ => 0)))), (m_cameBy, .inl (cI, 1200, (.inl (fun _ => 0)))), (m_next, .inl (cI, 3, (.inl (fun _ => 0)))), (m_sides, .inl (cI, 183, (.inl (fun _ => 0)))), (m_steps, .inl (cI, 60, (.inl (fun _ => 0))))] s.heap := hP
  have hl := lv_entry ([.ref m0, .int p0, .int p1, .int p2, .int p3, .int p4, .int p5]) (n := 11) (Nat.le_of_ble_eq_true rfl)
  rw [lg_entry_eq]
  generalize (lg_sl ([.ref m0, .int p0, .int p1, .int p2, .int p3, .int p4, .int p5]) ++ List.replicate (11 - (lg_sl ([.ref m0, .int p0, .int p1, .int p2, .int p3, .int p4, .int p5])).length) Slot.unset).toArray = ls at hl ⊢
  have hl : lv_has ls 11 [(0, .ref m0), (1, .int p0), (2, .int p1), (3, .int p2), (4, .int p3), (5, .int p4), (6, .int p5)] := hl
  refine lv_aload_n hx hb dX11_plan_0 rfl (lv_at hl 0 rfl) ?_
  refine lv_iconst (v := 0) hx hb dX11_plan_1 (by decide) ?_
  refine va_put (D := (dC, dI)) (ci := 11) (v := .int 0) (ty := .int) (C := RX11) (T := TX11) (N := 52) hx hb hts hiX11 tyX11 tyX11_ok nmX11 hown hK hP hD hS 0 rfl rfl 0 (by decide) (hts (.fieldLink RX11 106 "ScissorsTableModel" "thrown" "I") (by decide +kernel)) (fun _ h9 => h9) rfl (by decide +kernel) rfl rfl (Nat.le_of_ble_eq_true rfl) dX11_plan_2 (fun H locs hP hD hS => ?_)
  have hP : va_P (dC, dI) vwCl [(m0, .inr (11, [.int 0, .ref m_tape, .int 0, .int 0, .int 0, .ref m_read, .int 0, .int 0, .int 0, .ref m_tets, .int 0, .int 0, .int 0, .int 0, .int 0, .int 0, .int 0, .int 0, .ref m_primes, .ref m_often, .ref m_normal, .ref m_termM, .ref m_termP, .ref m_termV, .ref m_sumFrom, .ref m_sumMany, .int 0, .int 0, .int 0, .int 0, .ref m_part, .ref m_fair, .ref m_heap, .ref m_pickTet, .ref m_pickEdge, .ref m_base, .ref m_baseM, .ref m_baseP, .ref m_rowsOf, .int 0, .ref m_grid, .ref m_times, .ref m_boxes, .ref m_cameFrom, .ref m_cameBy, .ref m_steps, .ref m_sides, .int 0, .int (-1), .ref m_next, .ref m_cube, .ref m_ways])), (m_boxes, .inl (cI, 3600, (.inl (fun _ => 0)))), (m_cameFrom, .inl (cI, 1200, (.inl (fun _ => 0)))), (m_cameBy, .inl (cI, 1200, (.inl (fun _ => 0)))), (m_next, .inl (cI, 3, (.inl (fun _ => 0)))), (m_sides, .inl (cI, 183, (.inl (fun _ => 0)))), (m_steps, .inl (cI, 60, (.inl (fun _ => 0))))] H := hP
  have hD : va_D A [(m0, .inr (11, [.int 0, .ref m_tape, .int 0, .int 0, .int 0, .ref m_read, .int 0, .int 0, .int 0, .ref m_tets, .int 0, .int 0, .int 0, .int 0, .int 0, .int 0, .int 0, .int 0, .ref m_primes, .ref m_often, .ref m_normal, .ref m_termM, .ref m_termP, .ref m_termV, .ref m_sumFrom, .ref m_sumMany, .int 0, .int 0, .int 0, .int 0, .ref m_part, .ref m_fair, .ref m_heap, .ref m_pickTet, .ref m_pickEdge, .ref m_base, .ref m_baseM, .ref m_baseP, .ref m_rowsOf, .int 0, .ref m_grid, .ref m_times, .ref m_boxes, .ref m_cameFrom, .ref m_cameBy, .ref m_steps, .ref m_sides, .int 0, .int (-1), .ref m_next, .ref m_cube, .ref m_ways])), (m_boxes, .inl (cI, 3600, (.inl (fun _ => 0)))), (m_cameFrom, .inl (cI, 1200, (.inl (fun _ => 0)))), (m_cameBy, .inl (cI, 1200, (.inl (fun _ => 0)))), (m_next, .inl (cI, 3, (.inl (fun _ => 0)))), (m_sides, .inl (cI, 183, (.inl (fun _ => 0)))), (m_steps, .inl (cI, 60, (.inl (fun _ => 0))))] := hD
  refine lv_iload_n hx hb dX11_plan_5 rfl (lv_at hl 1 rfl) ?_
  refine lv_iload_n hx hb dX11_plan_6 rfl (lv_at hl 2 rfl) ?_
  refine lv_iload_n hx hb dX11_plan_7 rfl (lv_at hl 3 rfl) ?_
  have hPc := hP.sub (ws' := []) [] rfl
  have hDc := hD.sub (ws' := []) [] (by decide) rfl
  have hFc := va_free (wc := []) hD hS hA [] rfl
  refine va_calli (va_runS (As := [.int p0, .int p1, .int p2]) (rest := []) ⟨hx, hb, hml, hown, hts⟩ (c_X11_areSides l dC dI cB cI cJ H.size p0 p1 p2) (va_cwS 3 hts gX11_plan_X11_areSides rfl rfl rfl (by decide +kernel) ⟨Nat.le_of_ble_eq_true rfl, Nat.le_of_ble_eq_true rfl⟩) ⟨fun a U g mk q => by obtain ⟨q0, q1, qP, qK, qD⟩ := q; exact ⟨q0, q1, qP, va_K.moved (u := U) (U := U.calling g mk a) (Vm.Alike.refl U.vm) qK, qD⟩, fun U hU hW => ⟨rfl, by rw [hU], by rw [hU]; exact hPc, va_K.moved hW.alike hK, hDc.weaken (fun _ _ _ _ => trivial)⟩⟩ rfl rfl hl.1 rfl (lv_room (Nat.le_of_ble_eq_true rfl)) dX11_plan_8 ⟨Nat.le_of_ble_eq_true rfl, Nat.le_of_ble_eq_true rfl⟩) hS (fun q _ h => hFc q h) hFc (fun r_1 u t H1 locs ht hvm hw hB hz1 hk1 hS => ?_)
  have hP1 : va_P (dC, dI) vwCl [] H1 := fun k q h => by simp at h
  have hD1 : va_D (va_A [] H.size) [] := ⟨fun i j p q h => by simp at h, fun k q h => by simp at h⟩
  obtain ⟨hP, hD⟩ := va_join (wr := [(m0, .inr (11, [.int 0, .ref m_tape, .int 0, .int 0, .int 0, .ref m_read, .int 0, .int 0, .int 0, .ref m_tets, .int 0, .int 0, .int 0, .int 0, .int 0, .int 0, .int 0, .int 0, .ref m_primes, .ref m_often, .ref m_normal, .ref m_termM, .ref m_termP, .ref m_termV, .ref m_sumFrom, .ref m_sumMany, .int 0, .int 0, .int 0, .int 0, .ref m_part, .ref m_fair, .ref m_heap, .ref m_pickTet, .ref m_pickEdge, .ref m_base, .ref m_baseM, .ref m_baseP, .ref m_rowsOf, .int 0, .ref m_grid, .ref m_times, .ref m_boxes, .ref m_cameFrom, .ref m_cameBy, .ref m_steps, .ref m_sides, .int 0, .int (-1), .ref m_next, .ref m_cube, .ref m_ways])), (m_boxes, .inl (cI, 3600, (.inl (fun _ => 0)))), (m_cameFrom, .inl (cI, 1200, (.inl (fun _ => 0)))), (m_cameBy, .inl (cI, 1200, (.inl (fun _ => 0)))), (m_next, .inl (cI, 3, (.inl (fun _ => 0)))), (m_sides, .inl (cI, 183, (.inl (fun _ => 0)))), (m_steps, .inl (cI, 60, (.inl (fun _ => 0))))]) (w1 := []) hP hD [] [0, 1, 2, 3, 4, 5, 6] rfl rfl (by decide) (by decide) hk1 hFc hP1 hD1
  generalize H1 = H at hP hS ⊢
  have hP : va_P (dC, dI) vwCl [(m0, .inr (11, [.int 0, .ref m_tape, .int 0, .int 0, .int 0, .ref m_read, .int 0, .int 0, .int 0, .ref m_tets, .int 0, .int 0, .int 0, .int 0, .int 0, .int 0, .int 0, .int 0, .ref m_primes, .ref m_often, .ref m_normal, .ref m_termM, .ref m_termP, .ref m_termV, .ref m_sumFrom, .ref m_sumMany, .int 0, .int 0, .int 0, .int 0, .ref m_part, .ref m_fair, .ref m_heap, .ref m_pickTet, .ref m_pickEdge, .ref m_base, .ref m_baseM, .ref m_baseP, .ref m_rowsOf, .int 0, .ref m_grid, .ref m_times, .ref m_boxes, .ref m_cameFrom, .ref m_cameBy, .ref m_steps, .ref m_sides, .int 0, .int (-1), .ref m_next, .ref m_cube, .ref m_ways])), (m_boxes, .inl (cI, 3600, (.inl (fun _ => 0)))), (m_cameFrom, .inl (cI, 1200, (.inl (fun _ => 0)))), (m_cameBy, .inl (cI, 1200, (.inl (fun _ => 0)))), (m_next, .inl (cI, 3, (.inl (fun _ => 0)))), (m_sides, .inl (cI, 183, (.inl (fun _ => 0)))), (m_steps, .inl (cI, 60, (.inl (fun _ => 0))))] H := hP
  have hD : va_D A [(m0, .inr (11, [.int 0, .ref m_tape, .int 0, .int 0, .int 0, .ref m_read, .int 0, .int 0, .int 0, .ref m_tets, .int 0, .int 0, .int 0, .int 0, .int 0, .int 0, .int 0, .int 0, .ref m_primes, .ref m_often, .ref m_normal, .ref m_termM, .ref m_termP, .ref m_termV, .ref m_sumFrom, .ref m_sumMany, .int 0, .int 0, .int 0, .int 0, .ref m_part, .ref m_fair, .ref m_heap, .ref m_pickTet, .ref m_pickEdge, .ref m_base, .ref m_baseM, .ref m_baseP, .ref m_rowsOf, .int 0, .ref m_grid, .ref m_times, .ref m_boxes, .ref m_cameFrom, .ref m_cameBy, .ref m_steps, .ref m_sides, .int 0, .int (-1), .ref m_next, .ref m_cube, .ref m_ways])), (m_boxes, .inl (cI, 3600, (.inl (fun _ => 0)))), (m_cameFrom, .inl (cI, 1200, (.inl (fun _ => 0)))), (m_cameBy, .inl (cI, 1200, (.inl (fun _ => 0)))), (m_next, .inl (cI, 3, (.inl (fun _ => 0)))), (m_sides, .inl (cI, 183, (.inl (fun _ => 0)))), (m_steps, .inl (cI, 60, (.inl (fun _ => 0))))] := hD
  rcases hw with ⟨rfl, k_2⟩ | ⟨rfl, k_2⟩
  · refine lv_if_eq (tgt := 37) hx hb dX11_plan_11 (by decide) (fun _ => ?_) (fun c => absurd (by decide) c)
    refine lv_bipush (v := (-2)) hx hb dX11_plan_37 (by decide) ?_
    refine W.widen (k := 0) (n := 0) (Nat.le_of_ble_eq_true rfl) (Nat.le_of_ble_eq_true rfl) ?_
    exact W.iret (v := (-2)) hx hb hr (fun t ht hW => ⟨⟨(-2), (), rfl, (pl_bad1 k_2), trivial⟩, hS.F ht⟩) hS.2.2 dX11_plan_39
  · refine lv_if_eq (tgt := 37) hx hb dX11_plan_11 (by decide) (fun c => absurd c (by decide)) (fun _ => ?_)
    refine lv_iload hx hb dX11_plan_14 (lv_at hl 4 rfl) ?_
    refine lv_iload hx hb dX11_plan_16 (lv_at hl 5 rfl) ?_
    refine lv_iload hx hb dX11_plan_18 (lv_at hl 6 rfl) ?_
    have hPc := hP.sub (ws' := []) [] rfl
    have hDc := hD.sub (ws' := []) [] (by decide) rfl
    have hFc := va_free (wc := []) hD hS hA [] rfl
    refine va_calli (va_runS (As := [.int p3, .int p4, .int p5]) (rest := []) ⟨hx, hb, hml, hown, hts⟩ (c_X11_areSides l dC dI cB cI cJ H.size p3 p4 p5) (va_cwS 3 hts gX11_plan_X11_areSides rfl rfl rfl (by decide +kernel) ⟨Nat.le_of_ble_eq_true rfl, Nat.le_of_ble_eq_true rfl⟩) ⟨fun a U g mk q => by obtain ⟨q0, q1, qP, qK, qD⟩ := q; exact ⟨q0, q1, qP, va_K.moved (u := U) (U := U.calling g mk a) (Vm.Alike.refl U.vm) qK, qD⟩, fun U hU hW => ⟨rfl, by rw [hU], by rw [hU]; exact hPc, va_K.moved hW.alike hK, hDc.weaken (fun _ _ _ _ => trivial)⟩⟩ rfl rfl hl.1 rfl (lv_room (Nat.le_of_ble_eq_true rfl)) dX11_plan_20 ⟨Nat.le_of_ble_eq_true rfl, Nat.le_of_ble_eq_true rfl⟩) hS (fun q _ h => hFc q h) hFc (fun r_3 u t H1 locs ht hvm hw hB hz1 hk1 hS => ?_)
    have hP1 : va_P (dC, dI) vwCl [] H1 := fun k q h => by simp at h
    have hD1 : va_D (va_A [] H.size) [] := ⟨fun i j p q h => by simp at h, fun k q h => by simp at h⟩
    obtain ⟨hP, hD⟩ := va_join (wr := [(m0, .inr (11, [.int 0, .ref m_tape, .int 0, .int 0, .int 0, .ref m_read, .int 0, .int 0, .int 0, .ref m_tets, .int 0, .int 0, .int 0, .int 0, .int 0, .int 0, .int 0, .int 0, .ref m_primes, .ref m_often, .ref m_normal, .ref m_termM, .ref m_termP, .ref m_termV, .ref m_sumFrom, .ref m_sumMany, .int 0, .int 0, .int 0, .int 0, .ref m_part, .ref m_fair, .ref m_heap, .ref m_pickTet, .ref m_pickEdge, .ref m_base, .ref m_baseM, .ref m_baseP, .ref m_rowsOf, .int 0, .ref m_grid, .ref m_times, .ref m_boxes, .ref m_cameFrom, .ref m_cameBy, .ref m_steps, .ref m_sides, .int 0, .int (-1), .ref m_next, .ref m_cube, .ref m_ways])), (m_boxes, .inl (cI, 3600, (.inl (fun _ => 0)))), (m_cameFrom, .inl (cI, 1200, (.inl (fun _ => 0)))), (m_cameBy, .inl (cI, 1200, (.inl (fun _ => 0)))), (m_next, .inl (cI, 3, (.inl (fun _ => 0)))), (m_sides, .inl (cI, 183, (.inl (fun _ => 0)))), (m_steps, .inl (cI, 60, (.inl (fun _ => 0))))]) (w1 := []) hP hD [] [0, 1, 2, 3, 4, 5, 6] rfl rfl (by decide) (by decide) hk1 hFc hP1 hD1
    generalize H1 = H at hP hS ⊢
    have hP : va_P (dC, dI) vwCl [(m0, .inr (11, [.int 0, .ref m_tape, .int 0, .int 0, .int 0, .ref m_read, .int 0, .int 0, .int 0, .ref m_tets, .int 0, .int 0, .int 0, .int 0, .int 0, .int 0, .int 0, .int 0, .ref m_primes, .ref m_often, .ref m_normal, .ref m_termM, .ref m_termP, .ref m_termV, .ref m_sumFrom, .ref m_sumMany, .int 0, .int 0, .int 0, .int 0, .ref m_part, .ref m_fair, .ref m_heap, .ref m_pickTet, .ref m_pickEdge, .ref m_base, .ref m_baseM, .ref m_baseP, .ref m_rowsOf, .int 0, .ref m_grid, .ref m_times, .ref m_boxes, .ref m_cameFrom, .ref m_cameBy, .ref m_steps, .ref m_sides, .int 0, .int (-1), .ref m_next, .ref m_cube, .ref m_ways])), (m_boxes, .inl (cI, 3600, (.inl (fun _ => 0)))), (m_cameFrom, .inl (cI, 1200, (.inl (fun _ => 0)))), (m_cameBy, .inl (cI, 1200, (.inl (fun _ => 0)))), (m_next, .inl (cI, 3, (.inl (fun _ => 0)))), (m_sides, .inl (cI, 183, (.inl (fun _ => 0)))), (m_steps, .inl (cI, 60, (.inl (fun _ => 0))))] H := hP
    have hD : va_D A [(m0, .inr (11, [.int 0, .ref m_tape, .int 0, .int 0, .int 0, .ref m_read, .int 0, .int 0, .int 0, .ref m_tets, .int 0, .int 0, .int 0, .int 0, .int 0, .int 0, .int 0, .int 0, .ref m_primes, .ref m_often, .ref m_normal, .ref m_termM, .ref m_termP, .ref m_termV, .ref m_sumFrom, .ref m_sumMany, .int 0, .int 0, .int 0, .int 0, .ref m_part, .ref m_fair, .ref m_heap, .ref m_pickTet, .ref m_pickEdge, .ref m_base, .ref m_baseM, .ref m_baseP, .ref m_rowsOf, .int 0, .ref m_grid, .ref m_times, .ref m_boxes, .ref m_cameFrom, .ref m_cameBy, .ref m_steps, .ref m_sides, .int 0, .int (-1), .ref m_next, .ref m_cube, .ref m_ways])), (m_boxes, .inl (cI, 3600, (.inl (fun _ => 0)))), (m_cameFrom, .inl (cI, 1200, (.inl (fun _ => 0)))), (m_cameBy, .inl (cI, 1200, (.inl (fun _ => 0)))), (m_next, .inl (cI, 3, (.inl (fun _ => 0)))), (m_sides, .inl (cI, 183, (.inl (fun _ => 0)))), (m_steps, .inl (cI, 60, (.inl (fun _ => 0))))] := hD
    rcases hw with ⟨rfl, k_4⟩ | ⟨rfl, k_4⟩
    · refine lv_if_eq (tgt := 37) hx hb dX11_plan_23 (by decide) (fun _ => ?_) (fun c => absurd (by decide) c)
      refine lv_bipush (v := (-2)) hx hb dX11_plan_37 (by decide) ?_
      refine W.widen (k := 0) (n := 0) (Nat.le_of_ble_eq_true rfl) (Nat.le_of_ble_eq_true rfl) ?_
      exact W.iret (v := (-2)) hx hb hr (fun t ht hW => ⟨⟨(-2), (), rfl, (pl_bad2 k_4), trivial⟩, hS.F ht⟩) hS.2.2 dX11_plan_39
    · refine lv_if_eq (tgt := 37) hx hb dX11_plan_23 (by decide) (fun c => absurd c (by decide)) (fun _ => ?_)
      obtain ⟨u0, hu0, eu0⟩ := nk_side k_2.1
      obtain ⟨u1, hu1, eu1⟩ := nk_side k_2.2.1
      obtain ⟨u2, hu2, eu2⟩ := nk_side k_2.2.2
      obtain ⟨v0, hv0, ev0⟩ := nk_side k_4.1
      obtain ⟨v1, hv1, ev1⟩ := nk_side k_4.2.1
      obtain ⟨v2, hv2, ev2⟩ := nk_side k_4.2.2
      subst eu0
      subst eu1
      subst eu2
      subst ev0
      subst ev1
      subst ev2
      have hl : lv_has ls 11 [(0, .ref m0), (1, .int (nI u0)), (2, .int (nI u1)), (3, .int (nI u2)), (4, .int (nI v0)), (5, .int (nI v1)), (6, .int (nI v2))] := hl
      have hu : (1 ≤ u0 ∧ u0 ≤ 24) ∧ (1 ≤ u1 ∧ u1 ≤ 24) ∧ (1 ≤ u2 ∧ u2 ≤ 24) := ⟨hu0, hu1, hu2⟩
      have hv : (1 ≤ v0 ∧ v0 ≤ 24) ∧ (1 ≤ v1 ∧ v1 ≤ 24) ∧ (1 ≤ v2 ∧ v2 ≤ 24) := ⟨hv0, hv1, hv2⟩
      have hm1 : u0 * u1 ≤ 24 * 24 := Nat.mul_le_mul hu0.2 hu1.2
      have hm2 : u0 * u1 * u2 ≤ 24 * 24 * 24 := Nat.mul_le_mul hm1 hu2.2
      have hm3 : v0 * v1 ≤ 24 * 24 := Nat.mul_le_mul hv0.2 hv1.2
      have hm4 : v0 * v1 * v2 ≤ 24 * 24 * 24 := Nat.mul_le_mul hm3 hv2.2
      refine lv_iload_n hx hb dX11_plan_26 rfl (lv_at hl 1 rfl) ?_
      refine lv_iload_n hx hb dX11_plan_27 rfl (lv_at hl 2 rfl) ?_
      refine lv_imul hx hb dX11_plan_28 ?_
      refine lv_topi (fun x_5 ex_5 => ?_)
      obtain rfl : x_5 = nI (u0 * u1) := ex_5.trans (pk_mul u0 u1)
      refine lv_iload_n hx hb dX11_plan_29 rfl (lv_at hl 3 rfl) ?_
      refine lv_imul hx hb dX11_plan_30 ?_
      refine lv_topi (fun x_6 ex_6 => ?_)
      obtain rfl : x_6 = nI ((u0 * u1) * u2) := ex_6.trans (pk_mul (u0 * u1) u2)
      refine lv_sipush (v := 1728) hx hb dX11_plan_31 (by decide) ?_
      refine lv_icmp_le (tgt := 40) hx hb dX11_plan_34 (by decide) (fun c_7 => ?_) (fun c_7 => ?_)
      · have c_7 : ((u0 * u1) * u2) ≤ 1728 := (nI_leI (a := (u0 * u1) * u2) (b := 1728) (by omega) (by omega)).mp c_7
        refine lv_iload_n hx hb dX11_plan_40 rfl (lv_at hl 1 rfl) ?_
        refine lv_iload_n hx hb dX11_plan_41 rfl (lv_at hl 2 rfl) ?_
        refine lv_imul hx hb dX11_plan_42 ?_
        refine lv_topi (fun x_8 ex_8 => ?_)
        obtain rfl : x_8 = nI (u0 * u1) := ex_8.trans (pk_mul u0 u1)
        refine lv_iload_n hx hb dX11_plan_43 rfl (lv_at hl 3 rfl) ?_
        refine lv_imul hx hb dX11_plan_44 ?_
        refine lv_topi (fun x_9 ex_9 => ?_)
        obtain rfl : x_9 = nI ((u0 * u1) * u2) := ex_9.trans (pk_mul (u0 * u1) u2)
        refine lv_iload hx hb dX11_plan_45 (lv_at hl 4 rfl) ?_
        refine lv_iload hx hb dX11_plan_47 (lv_at hl 5 rfl) ?_
        refine lv_imul hx hb dX11_plan_49 ?_
        refine lv_topi (fun x_10 ex_10 => ?_)
        obtain rfl : x_10 = nI (v0 * v1) := ex_10.trans (pk_mul v0 v1)
        refine lv_iload hx hb dX11_plan_50 (lv_at hl 6 rfl) ?_
        refine lv_imul hx hb dX11_plan_52 ?_
        refine lv_topi (fun x_11 ex_11 => ?_)
        obtain rfl : x_11 = nI ((v0 * v1) * v2) := ex_11.trans (pk_mul (v0 * v1) v2)
        refine lv_icmp_eq (tgt := 59) hx hb dX11_plan_53 (by decide) (fun c_12 => ?_) (fun c_12 => ?_)
        · have c_12 : ((u0 * u1) * u2) = ((v0 * v1) * v2) := (nI_eq (a := (u0 * u1) * u2) (b := (v0 * v1) * v2) (by omega) (by omega)).mp c_12
          refine lv_aload_n hx hb dX11_plan_59 rfl (lv_at hl 0 rfl) ?_
          refine lv_iconst (v := 0) hx hb dX11_plan_60 (by decide) ?_
          refine va_put (D := (dC, dI)) (ci := 11) (v := .int 0) (ty := .int) (C := RX11) (T := TX11) (N := 52) hx hb hts hiX11 tyX11 tyX11_ok nmX11 hown hK hP hD hS 0 rfl rfl 47 (by decide) (hts (.fieldLink RX11 448 "ScissorsTableModel" "boxMany" "I") (by decide +kernel)) (fun _ h9 => h9) rfl (by decide +kernel) rfl rfl (Nat.le_of_ble_eq_true rfl) dX11_plan_61 (fun H locs hP hD hS => ?_)
          have hP : va_P (dC, dI) vwCl [(m0, .inr (11, [.int 0, .ref m_tape, .int 0, .int 0, .int 0, .ref m_read, .int 0, .int 0, .int 0, .ref m_tets, .int 0, .int 0, .int 0, .int 0, .int 0, .int 0, .int 0, .int 0, .ref m_primes, .ref m_often, .ref m_normal, .ref m_termM, .ref m_termP, .ref m_termV, .ref m_sumFrom, .ref m_sumMany, .int 0, .int 0, .int 0, .int 0, .ref m_part, .ref m_fair, .ref m_heap, .ref m_pickTet, .ref m_pickEdge, .ref m_base, .ref m_baseM, .ref m_baseP, .ref m_rowsOf, .int 0, .ref m_grid, .ref m_times, .ref m_boxes, .ref m_cameFrom, .ref m_cameBy, .ref m_steps, .ref m_sides, .int 0, .int (-1), .ref m_next, .ref m_cube, .ref m_ways])), (m_boxes, .inl (cI, 3600, (.inl (fun _ => 0)))), (m_cameFrom, .inl (cI, 1200, (.inl (fun _ => 0)))), (m_cameBy, .inl (cI, 1200, (.inl (fun _ => 0)))), (m_next, .inl (cI, 3, (.inl (fun _ => 0)))), (m_sides, .inl (cI, 183, (.inl (fun _ => 0)))), (m_steps, .inl (cI, 60, (.inl (fun _ => 0))))] H := hP
          have hD : va_D A [(m0, .inr (11, [.int 0, .ref m_tape, .int 0, .int 0, .int 0, .ref m_read, .int 0, .int 0, .int 0, .ref m_tets, .int 0, .int 0, .int 0, .int 0, .int 0, .int 0, .int 0, .int 0, .ref m_primes, .ref m_often, .ref m_normal, .ref m_termM, .ref m_termP, .ref m_termV, .ref m_sumFrom, .ref m_sumMany, .int 0, .int 0, .int 0, .int 0, .ref m_part, .ref m_fair, .ref m_heap, .ref m_pickTet, .ref m_pickEdge, .ref m_base, .ref m_baseM, .ref m_baseP, .ref m_rowsOf, .int 0, .ref m_grid, .ref m_times, .ref m_boxes, .ref m_cameFrom, .ref m_cameBy, .ref m_steps, .ref m_sides, .int 0, .int (-1), .ref m_next, .ref m_cube, .ref m_ways])), (m_boxes, .inl (cI, 3600, (.inl (fun _ => 0)))), (m_cameFrom, .inl (cI, 1200, (.inl (fun _ => 0)))), (m_cameBy, .inl (cI, 1200, (.inl (fun _ => 0)))), (m_next, .inl (cI, 3, (.inl (fun _ => 0)))), (m_sides, .inl (cI, 183, (.inl (fun _ => 0)))), (m_steps, .inl (cI, 60, (.inl (fun _ => 0))))] := hD
          refine lv_aload_n hx hb dX11_plan_64 rfl (lv_at hl 0 rfl) ?_
          refine lv_iload_n hx hb dX11_plan_65 rfl (lv_at hl 1 rfl) ?_
          refine lv_iload_n hx hb dX11_plan_66 rfl (lv_at hl 2 rfl) ?_
          refine lv_iload_n hx hb dX11_plan_67 rfl (lv_at hl 3 rfl) ?_
          refine lv_iconst (v := (-1)) hx hb dX11_plan_68 (by decide) ?_
          refine lv_iconst (v := 0) hx hb dX11_plan_69 (by decide) ?_
          have hfin := q_fin hu0 hu1 hu2 c_7
          have hsi : bx_in (u0 * u1 * u2) (bx_mk u0 u1 u2) := ⟨u0, u1, u2, hu0, hu1, hu2, rfl, rfl⟩
          have hgi : bx_in (u0 * u1 * u2) (bx_mk v0 v1 v2) := ⟨v0, v1, v2, hv0, hv1, hv2, c_12.symm, rfl⟩
          have hPc := hP.sub (ws' := [(m0, .inr (11, [.int 0, .ref m_tape, .int 0, .int 0, .int 0, .ref m_read, .int 0, .int 0, .int 0, .ref m_tets, .int 0, .int 0, .int 0, .int 0, .int 0, .int 0, .int 0, .int 0, .ref m_primes, .ref m_often, .ref m_normal, .ref m_termM, .ref m_termP, .ref m_termV, .ref m_sumFrom, .ref m_sumMany, .int 0, .int 0, .int 0, .int 0, .ref m_part, .ref m_fair, .ref m_heap, .ref m_pickTet, .ref m_pickEdge, .ref m_base, .ref m_baseM, .ref m_baseP, .ref m_rowsOf, .int 0, .ref m_grid, .ref m_times, .ref m_boxes, .ref m_cameFrom, .ref m_cameBy, .ref m_steps, .ref m_sides, .int 0, .int (-1), .ref m_next, .ref m_cube, .ref m_ways])), (m_boxes, .inl (cI, 3600, (.inl (fun _ => 0)))), (m_cameFrom, .inl (cI, 1200, (.inl (fun _ => 0)))), (m_cameBy, .inl (cI, 1200, (.inl (fun _ => 0))))]) [0, 1, 2, 3] rfl
          have hDc := hD.sub (ws' := [(m0, .inr (11, [.int 0, .ref m_tape, .int 0, .int 0, .int 0, .ref m_read, .int 0, .int 0, .int 0, .ref m_tets, .int 0, .int 0, .int 0, .int 0, .int 0, .int 0, .int 0, .int 0, .ref m_primes, .ref m_often, .ref m_normal, .ref m_termM, .ref m_termP, .ref m_termV, .ref m_sumFrom, .ref m_sumMany, .int 0, .int 0, .int 0, .int 0, .ref m_part, .ref m_fair, .ref m_heap, .ref m_pickTet, .ref m_pickEdge, .ref m_base, .ref m_baseM, .ref m_baseP, .ref m_rowsOf, .int 0, .ref m_grid, .ref m_times, .ref m_boxes, .ref m_cameFrom, .ref m_cameBy, .ref m_steps, .ref m_sides, .int 0, .int (-1), .ref m_next, .ref m_cube, .ref m_ways])), (m_boxes, .inl (cI, 3600, (.inl (fun _ => 0)))), (m_cameFrom, .inl (cI, 1200, (.inl (fun _ => 0)))), (m_cameBy, .inl (cI, 1200, (.inl (fun _ => 0))))]) [0, 1, 2, 3] (by decide) rfl
          have hFc := va_free (wc := [(m0, .inr (11, [.int 0, .ref m_tape, .int 0, .int 0, .int 0, .ref m_read, .int 0, .int 0, .int 0, .ref m_tets, .int 0, .int 0, .int 0, .int 0, .int 0, .int 0, .int 0, .int 0, .ref m_primes, .ref m_often, .ref m_normal, .ref m_termM, .ref m_termP, .ref m_termV, .ref m_sumFrom, .ref m_sumMany, .int 0, .int 0, .int 0, .int 0, .ref m_part, .ref m_fair, .ref m_heap, .ref m_pickTet, .ref m_pickEdge, .ref m_base, .ref m_baseM, .ref m_baseP, .ref m_rowsOf, .int 0, .ref m_grid, .ref m_times, .ref m_boxes, .ref m_cameFrom, .ref m_cameBy, .ref m_steps, .ref m_sides, .int 0, .int (-1), .ref m_next, .ref m_cube, .ref m_ways])), (m_boxes, .inl (cI, 3600, (.inl (fun _ => 0)))), (m_cameFrom, .inl (cI, 1200, (.inl (fun _ => 0)))), (m_cameBy, .inl (cI, 1200, (.inl (fun _ => 0))))]) hD hS hA [0, 1, 2, 3] rfl
          refine va_callv (va_runV (As := [.int (nI u0), .int (nI u1), .int (nI u2), .int (-1), .int 0]) (rest := []) ⟨hx, hb, hml, hown, hts⟩ (c_X11_meetsBox l dC dI cB cI cJ H.size m0 m_tape m_read m_tets m_primes m_often m_normal m_termM m_termP m_termV m_sumFrom m_sumMany m_part m_fair m_heap m_pickTet m_pickEdge m_base m_baseM m_baseP m_rowsOf m_grid m_times m_boxes m_cameFrom m_cameBy m_steps m_sides m_next m_cube m_ways ([] : List qE) (fun _ => 0) (fun _ => 0) (fun _ => 0) (u0 * u1 * u2) u0 u1 u2 0 0 (-1) 0 hu rfl (fun t9 e9 h9 => by simp at h9) (fun t9 e9 h9 => by simp at h9) (by decide) rfl) (cwV 5 hts gX11_plan_X11_meetsBox rfl rfl rfl (by decide +kernel) ⟨Nat.le_of_ble_eq_true rfl, Nat.le_of_ble_eq_true rfl⟩) ⟨fun a U g mk q => by obtain ⟨q0, q1, qP, qK, qD⟩ := q; exact ⟨q0, q1, qP, va_K.moved (u := U) (U := U.calling g mk a) (Vm.Alike.refl U.vm) qK, qD⟩, va_recv hK hP (ci := 11) (q0 := 0) rfl rfl, fun U hU hW => ⟨rfl, by rw [hU], by rw [hU]; exact hPc, va_K.moved hW.alike hK, hDc.weaken (fun _ _ _ _ => trivial)⟩⟩ rfl rfl hl.1 rfl (lv_room (Nat.le_of_ble_eq_true rfl)) dX11_plan_70 ⟨Nat.le_of_ble_eq_true rfl, Nat.le_of_ble_eq_true rfl⟩) hS (fun q _ h => hFc q h) hFc (fun u t H1 locs ht hvm hw hB hz1 hk1 hS => ?_)
          obtain ⟨g_13, g_14, g_15, h_16, hP1, hK1, hD1⟩ := hB
          rw [ht] at hP1
          obtain ⟨hP, hD⟩ := va_join (wr := [(m_next, .inl (cI, 3, (.inl (fun _ => 0)))), (m_sides, .inl (cI, 183, (.inl (fun _ => 0)))), (m_steps, .inl (cI, 60, (.inl (fun _ => 0))))]) (w1 := [(m0, .inr (11, [.int 0, .ref m_tape, .int 0, .int 0, .int 0, .ref m_read, .int 0, .int 0, .int 0, .ref m_tets, .int 0, .int 0, .int 0, .int 0, .int 0, .int 0, .int 0, .int 0, .ref m_primes, .ref m_often, .ref m_normal, .ref m_termM, .ref m_termP, .ref m_termV, .ref m_sumFrom, .ref m_sumMany, .int 0, .int 0, .int 0, .int 0, .ref m_part, .ref m_fair, .ref m_heap, .ref m_pickTet, .ref m_pickEdge, .ref m_base, .ref m_baseM, .ref m_baseP, .ref m_rowsOf, .int 0, .ref m_grid, .ref m_times, .ref m_boxes, .ref m_cameFrom, .ref m_cameBy, .ref m_steps, .ref m_sides, .int (nI (q_see ([] : List qE) 0 0 (bx_mk u0 u1 u2)).length), .int (-1), .ref m_next, .ref m_cube, .ref m_ways])), (m_boxes, .inl (cI, 3600, (.inl g_13))), (m_cameFrom, .inl (cI, 1200, (.inl g_14))), (m_cameBy, .inl (cI, 1200, (.inl g_15)))]) hP hD [0, 1, 2, 3] [4, 5, 6] rfl rfl (by decide) (by decide) hk1 hFc hP1 hD1
          generalize H1 = H at hP hS ⊢
          have hP : va_P (dC, dI) vwCl [(m_next, .inl (cI, 3, (.inl (fun _ => 0)))), (m_sides, .inl (cI, 183, (.inl (fun _ => 0)))), (m_steps, .inl (cI, 60, (.inl (fun _ => 0)))), (m0, .inr (11, [.int 0, .ref m_tape, .int 0, .int 0, .int 0, .ref m_read, .int 0, .int 0, .int 0, .ref m_tets, .int 0, .int 0, .int 0, .int 0, .int 0, .int 0, .int 0, .int 0, .ref m_primes, .ref m_often, .ref m_normal, .ref m_termM, .ref m_termP, .ref m_termV, .ref m_sumFrom, .ref m_sumMany, .int 0, .int 0, .int 0, .int 0, .ref m_part, .ref m_fair, .ref m_heap, .ref m_pickTet, .ref m_pickEdge, .ref m_base, .ref m_baseM, .ref m_baseP, .ref m_rowsOf, .int 0, .ref m_grid, .ref m_times, .ref m_boxes, .ref m_cameFrom, .ref m_cameBy, .ref m_steps, .ref m_sides, .int (nI (q_see ([] : List qE) 0 0 (bx_mk u0 u1 u2)).length), .int (-1), .ref m_next, .ref m_cube, .ref m_ways])), (m_boxes, .inl (cI, 3600, (.inl g_13))), (m_cameFrom, .inl (cI, 1200, (.inl g_14))), (m_cameBy, .inl (cI, 1200, (.inl g_15)))] H := hP
          have hD : va_D A [(m_next, .inl (cI, 3, (.inl (fun _ => 0)))), (m_sides, .inl (cI, 183, (.inl (fun _ => 0)))), (m_steps, .inl (cI, 60, (.inl (fun _ => 0)))), (m0, .inr (11, [.int 0, .ref m_tape, .int 0, .int 0, .int 0, .ref m_read, .int 0, .int 0, .int 0, .ref m_tets, .int 0, .int 0, .int 0, .int 0, .int 0, .int 0, .int 0, .int 0, .ref m_primes, .ref m_often, .ref m_normal, .ref m_termM, .ref m_termP, .ref m_termV, .ref m_sumFrom, .ref m_sumMany, .int 0, .int 0, .int 0, .int 0, .ref m_part, .ref m_fair, .ref m_heap, .ref m_pickTet, .ref m_pickEdge, .ref m_base, .ref m_baseM, .ref m_baseP, .ref m_rowsOf, .int 0, .ref m_grid, .ref m_times, .ref m_boxes, .ref m_cameFrom, .ref m_cameBy, .ref m_steps, .ref m_sides, .int (nI (q_see ([] : List qE) 0 0 (bx_mk u0 u1 u2)).length), .int (-1), .ref m_next, .ref m_cube, .ref m_ways])), (m_boxes, .inl (cI, 3600, (.inl g_13))), (m_cameFrom, .inl (cI, 1200, (.inl g_14))), (m_cameBy, .inl (cI, 1200, (.inl g_15)))] := hD
          refine lv_iconst (v := 0) hx hb dX11_plan_73 (by decide) ?_
          refine lv_istore (lv' := [(7, .int 0), (0, .ref m0), (1, .int (nI u0)), (2, .int (nI u1)), (3, .int (nI u2)), (4, .int (nI v0)), (5, .int (nI v1)), (6, .int (nI v2))]) hx hb dX11_plan_74 hl (by decide) rfl (fun ls hl => ?_)
          refine nk_G (fun G inn out => ?_)
          have loop : ∀ (f : Nat) (k : Nat) (gb : Nat → Int32) (gc : Nat → Int32) (gd : Nat → Int32) (gn : Nat → Int32) (gs : Nat → Int32) (gt : Nat → Int32) (h5 : k + f = 98) (h7 : k ≤ 97) (h6 : k ≤ (q_at (bx_mk u0 u1 u2) k).length) (hR : RR (q_at (bx_mk u0 u1 u2) k) gb gc) (hno : ∀ (t : Nat) (e : qE), t < k → (q_at (bx_mk u0 u1 u2) k)[t]? = some e → ¬ e.1 / 32 = bx_mk v0 v1 v2 / 32) (H : Heap) (locs : List Loc) (_ : va_P (dC, dI) vwCl [(m0, .inr (11, [.int 0, .ref m_tape, .int 0, .int 0, .int 0, .ref m_read, .int 0, .int 0, .int 0, .ref m_tets, .int 0, .int 0, .int 0, .int 0, .int 0, .int 0, .int 0, .int 0, .ref m_primes, .ref m_often, .ref m_normal, .ref m_termM, .ref m_termP, .ref m_termV, .ref m_sumFrom, .ref m_sumMany, .int 0, .int 0, .int 0, .int 0, .ref m_part, .ref m_fair, .ref m_heap, .ref m_pickTet, .ref m_pickEdge, .ref m_base, .ref m_baseM, .ref m_baseP, .ref m_rowsOf, .int 0, .ref m_grid, .ref m_times, .ref m_boxes, .ref m_cameFrom, .ref m_cameBy, .ref m_steps, .ref m_sides, .int (nI (q_at (bx_mk u0 u1 u2) k).length), .int (-1), .ref m_next, .ref m_cube, .ref m_ways])), (m_boxes, .inl (cI, 3600, (.inl gb))), (m_cameFrom, .inl (cI, 1200, (.inl gc))), (m_cameBy, .inl (cI, 1200, (.inl gd))), (m_next, .inl (cI, 3, (.inl gn))), (m_sides, .inl (cI, 183, (.inl gs))), (m_steps, .inl (cI, 60, (.inl gt)))] H) (_ : va_D A [(m0, .inr (11, [.int 0, .ref m_tape, .int 0, .int 0, .int 0, .ref m_read, .int 0, .int 0, .int 0, .ref m_tets, .int 0, .int 0, .int 0, .int 0, .int 0, .int 0, .int 0, .int 0, .ref m_primes, .ref m_often, .ref m_normal, .ref m_termM, .ref m_termP, .ref m_termV, .ref m_sumFrom, .ref m_sumMany, .int 0, .int 0, .int 0, .int 0, .ref m_part, .ref m_fair, .ref m_heap, .ref m_pickTet, .ref m_pickEdge, .ref m_base, .ref m_baseM, .ref m_baseP, .ref m_rowsOf, .int 0, .ref m_grid, .ref m_times, .ref m_boxes, .ref m_cameFrom, .ref m_cameBy, .ref m_steps, .ref m_sides, .int (nI (q_at (bx_mk u0 u1 u2) k).length), .int (-1), .ref m_next, .ref m_cube, .ref m_ways])), (m_boxes, .inl (cI, 3600, (.inl gb))), (m_cameFrom, .inl (cI, 1200, (.inl gc))), (m_cameBy, .inl (cI, 1200, (.inl gd))), (m_next, .inl (cI, 3, (.inl gn))), (m_sides, .inl (cI, 183, (.inl gs))), (m_steps, .inl (cI, 60, (.inl gt)))]) (_ : va_S A s.heap H locs) (ls : Array Slot) (_ : lv_has ls 11 [(0, .ref m0), (4, .int (nI v0)), (5, .int (nI v1)), (6, .int (nI v2)), (7, .int (nI k))]), G H locs (F0 m 76 ls []) := by
            intro f
            induction f with
            | zero =>
              intro k gb gc gd gn gs gt h5 h7 h6 hR hno H locs hP hD hS ls hl
              exfalso; omega
            | succ f ih =>
              intro k gb gc gd gn gs gt h5 h7 h6 hR hno H locs hP hD hS ls hl
              refine inn _ _ _ ?_
              have hlen := q_len hfin.1 h7
              have hI := (q_at_ok hsi k).1
              have hwf := (q_at_ok hsi k).2
              refine lv_iload hx hb dX11_plan_76 (lv_at hl 4 rfl) ?_
              refine lv_aload_n hx hb dX11_plan_78 rfl (lv_at hl 0 rfl) ?_
              refine va_get (D := (dC, dI)) (ci := 11) (v := .int (nI (q_at (bx_mk u0 u1 u2) k).length)) (C := RX11) (T := TX11) (N := 52) hx hb hts hiX11 hown hK hP 0 rfl rfl 47 (by decide) (hts (.fieldLink RX11 448 "ScissorsTableModel" "boxMany" "I") (by decide +kernel)) (fun _ h9 => h9) rfl dX11_plan_79 ?_
              refine lv_icmp_ge (tgt := 143) hx hb dX11_plan_82 (by decide) (fun c_17 => ?_) (fun c_17 => ?_)
              · have c_17 : ((q_at (bx_mk u0 u1 u2) k).length) ≤ k := (nI_leI (a := (q_at (bx_mk u0 u1 u2) k).length) (b := k) (by omega) (by omega)).mp c_17
                refine lv_iload hx hb dX11_plan_143 (lv_at hl 4 rfl) ?_
                refine lv_aload_n hx hb dX11_plan_145 rfl (lv_at hl 0 rfl) ?_
                refine va_get (D := (dC, dI)) (ci := 11) (v := .int (nI (q_at (bx_mk u0 u1 u2) k).length)) (C := RX11) (T := TX11) (N := 52) hx hb hts hiX11 hown hK hP 0 rfl rfl 47 (by decide) (hts (.fieldLink RX11 448 "ScissorsTableModel" "boxMany" "I") (by decide +kernel)) (fun _ h9 => h9) rfl dX11_plan_146 ?_
                have hke : k = (q_at (bx_mk u0 u1 u2) k).length := by omega
                refine lv_icmp_ne (tgt := 154) hx hb dX11_plan_149 (by decide) (fun c9 => absurd (congrArg nI hke) c9) (fun _ => ?_)
                have hra : r_ans (bx_mk u0 u1 u2) (bx_mk v0 v1 v2) = -1 := r_none h7 (q_none.mpr c_17) (fun t9 e9 h9 => hno t9 e9 (by have := q_lt h9; omega) h9)
                refine lv_iconst (v := (-1)) hx hb dX11_plan_152 (by decide) ?_
                refine W.widen (k := 0) (n := 0) (Nat.le_of_ble_eq_true rfl) (Nat.le_of_ble_eq_true rfl) ?_
                exact W.iret (v := (-1)) hx hb hr (fun t ht hW => ⟨⟨(-1), (), rfl, (pl_good hu hv (((if_neg (Nat.not_lt.mpr c_7)).trans (if_pos c_12)).trans hra).symm), trivial⟩, hS.F ht⟩) hS.2.2 dX11_plan_153
              · have c_17 : ¬ ((q_at (bx_mk u0 u1 u2) k).length) ≤ k := fun q9 => c_17 ((nI_leI (a := (q_at (bx_mk u0 u1 u2) k).length) (b := k) (by omega) (by omega)).mpr q9)
                obtain ⟨⟨bb, pk, d⟩, hkk⟩ := q_some (show k < (q_at (bx_mk u0 u1 u2) k).length by omega)
                have hbb : bx_in (u0 * u1 * u2) bb := hI k _ hkk
                have hbb2 := hbb
                obtain ⟨t0, t1, t2, ht0, ht1, ht2, htV, rfl⟩ := hbb2
                refine lv_aload_n hx hb dX11_plan_85 rfl (lv_at hl 0 rfl) ?_
                refine va_get (D := (dC, dI)) (ci := 11) (v := .ref m_boxes) (C := RX11) (T := TX11) (N := 52) hx hb hts hiX11 hown hK hP 0 rfl rfl 42 (by decide) (hts (.fieldLink RX11 78 "ScissorsTableModel" "boxes" "[I") (by decide +kernel)) (fun _ h9 => h9) rfl dX11_plan_86 ?_
                refine lv_iconst (v := 3) hx hb dX11_plan_89 (by decide) ?_
                refine lv_iload hx hb dX11_plan_90 (lv_at hl 4 rfl) ?_
                refine lv_imul hx hb dX11_plan_92 ?_
                refine lv_topi (fun x_18 ex_18 => ?_)
                obtain rfl : x_18 = nI (3 * k) := ex_18.trans (pk_mul 3 k)
                refine va_iald hx hb hK hP 1 1 rfl rfl (vp_in_nI (by omega) (by decide)) dX11_plan_93 ?_
                refine lv_topi (fun x_19 ex_19 => ?_)
                rw [nI_clamp (show 3 * k < 2 ^ 31 by omega)] at ex_19
                obtain rfl : x_19 = nI t0 := ex_19.trans ((hR k _ hkk).1.trans (congrArg nI (bx_x (by omega) (by omega))))
                refine lv_iload hx hb dX11_plan_94 (lv_at hl 1 rfl) ?_
                refine lv_icmp_ne (tgt := 131) hx hb dX11_plan_96 (by decide) (fun c_20 => ?_) (fun c_20 => ?_)
                · have c_20 : ¬ t0 = v0 := fun q9 => c_20 ((nI_eq (a := t0) (b := v0) (by omega) (by omega)).mpr q9)
                  refine lv_aload_n hx hb dX11_plan_131 rfl (lv_at hl 0 rfl) ?_
                  refine lv_iload hx hb dX11_plan_132 (lv_at hl 4 rfl) ?_
                  have hne : ¬ bx_mk t0 t1 t2 / 32 = bx_mk v0 v1 v2 / 32 := fun q9 => c_20 (bx_ne hbb hgi (by omega) q9).1
                  have hQe : q_sees k (d + 1) (nb_of (bx_mk t0 t1 t2)) (q_at (bx_mk u0 u1 u2) k) = q_at (bx_mk u0 u1 u2) (k + 1) := (q_exp_some hkk).symm
                  have hkl := q_lt hkk
                  have hl1 := q_len hfin.1 (show k + 1 ≤ 97 by omega)
                  have hPc := hP.sub (ws' := [(m0, .inr (11, [.int 0, .ref m_tape, .int 0, .int 0, .int 0, .ref m_read, .int 0, .int 0, .int 0, .ref m_tets, .int 0, .int 0, .int 0, .int 0, .int 0, .int 0, .int 0, .int 0, .ref m_primes, .ref m_often, .ref m_normal, .ref m_termM, .ref m_termP, .ref m_termV, .ref m_sumFrom, .ref m_sumMany, .int 0, .int 0, .int 0, .int 0, .ref m_part, .ref m_fair, .ref m_heap, .ref m_pickTet, .ref m_pickEdge, .ref m_base, .ref m_baseM, .ref m_baseP, .ref m_rowsOf, .int 0, .ref m_grid, .ref m_times, .ref m_boxes, .ref m_cameFrom, .ref m_cameBy, .ref m_steps, .ref m_sides, .int (nI (q_at (bx_mk u0 u1 u2) k).length), .int (-1), .ref m_next, .ref m_cube, .ref m_ways])), (m_boxes, .inl (cI, 3600, (.inl gb))), (m_cameFrom, .inl (cI, 1200, (.inl gc))), (m_cameBy, .inl (cI, 1200, (.inl gd))), (m_next, .inl (cI, 3, (.inl gn)))]) [0, 1, 2, 3, 4] rfl
                  have hDc := hD.sub (ws' := [(m0, .inr (11, [.int 0, .ref m_tape, .int 0, .int 0, .int 0, .ref m_read, .int 0, .int 0, .int 0, .ref m_tets, .int 0, .int 0, .int 0, .int 0, .int 0, .int 0, .int 0, .int 0, .ref m_primes, .ref m_often, .ref m_normal, .ref m_termM, .ref m_termP, .ref m_termV, .ref m_sumFrom, .ref m_sumMany, .int 0, .int 0, .int 0, .int 0, .ref m_part, .ref m_fair, .ref m_heap, .ref m_pickTet, .ref m_pickEdge, .ref m_base, .ref m_baseM, .ref m_baseP, .ref m_rowsOf, .int 0, .ref m_grid, .ref m_times, .ref m_boxes, .ref m_cameFrom, .ref m_cameBy, .ref m_steps, .ref m_sides, .int (nI (q_at (bx_mk u0 u1 u2) k).length), .int (-1), .ref m_next, .ref m_cube, .ref m_ways])), (m_boxes, .inl (cI, 3600, (.inl gb))), (m_cameFrom, .inl (cI, 1200, (.inl gc))), (m_cameBy, .inl (cI, 1200, (.inl gd))), (m_next, .inl (cI, 3, (.inl gn)))]) [0, 1, 2, 3, 4] (by decide) rfl
                  have hFc := va_free (wc := [(m0, .inr (11, [.int 0, .ref m_tape, .int 0, .int 0, .int 0, .ref m_read, .int 0, .int 0, .int 0, .ref m_tets, .int 0, .int 0, .int 0, .int 0, .int 0, .int 0, .int 0, .int 0, .ref m_primes, .ref m_often, .ref m_normal, .ref m_termM, .ref m_termP, .ref m_termV, .ref m_sumFrom, .ref m_sumMany, .int 0, .int 0, .int 0, .int 0, .ref m_part, .ref m_fair, .ref m_heap, .ref m_pickTet, .ref m_pickEdge, .ref m_base, .ref m_baseM, .ref m_baseP, .ref m_rowsOf, .int 0, .ref m_grid, .ref m_times, .ref m_boxes, .ref m_cameFrom, .ref m_cameBy, .ref m_steps, .ref m_sides, .int (nI (q_at (bx_mk u0 u1 u2) k).length), .int (-1), .ref m_next, .ref m_cube, .ref m_ways])), (m_boxes, .inl (cI, 3600, (.inl gb))), (m_cameFrom, .inl (cI, 1200, (.inl gc))), (m_cameBy, .inl (cI, 1200, (.inl gd))), (m_next, .inl (cI, 3, (.inl gn)))]) hD hS hA [0, 1, 2, 3, 4] rfl
                  refine va_callv (va_runV (As := [.int (nI k)]) (rest := []) ⟨hx, hb, hml, hown, hts⟩ (c_X11_goesFrom l dC dI cB cI cJ H.size m0 m_tape m_read m_tets m_primes m_often m_normal m_termM m_termP m_termV m_sumFrom m_sumMany m_part m_fair m_heap m_pickTet m_pickEdge m_base m_baseM m_baseP m_rowsOf m_grid m_times m_boxes m_cameFrom m_cameBy m_steps m_sides m_next m_cube m_ways (q_at (bx_mk u0 u1 u2) k) (q_at (bx_mk u0 u1 u2) (k + 1)) gb gc gd gn (u0 * u1 * u2) t0 t1 t2 k pk d (⟨ht0, ht1, ht2⟩) htV hkk hI hR hQe hl1) (cwV 1 hts gX11_plan_X11_goesFrom rfl rfl rfl (by decide +kernel) ⟨Nat.le_of_ble_eq_true rfl, Nat.le_of_ble_eq_true rfl⟩) ⟨fun a U g mk q => by obtain ⟨q0, q1, qP, qK, qD⟩ := q; exact ⟨q0, q1, qP, va_K.moved (u := U) (U := U.calling g mk a) (Vm.Alike.refl U.vm) qK, qD⟩, va_recv hK hP (ci := 11) (q0 := 0) rfl rfl, fun U hU hW => ⟨rfl, by rw [hU], by rw [hU]; exact hPc, va_K.moved hW.alike hK, hDc.weaken (fun _ _ _ _ => trivial)⟩⟩ rfl rfl hl.1 rfl (lv_room (Nat.le_of_ble_eq_true rfl)) dX11_plan_134 ⟨Nat.le_of_ble_eq_true rfl, Nat.le_of_ble_eq_true rfl⟩) hS (fun q _ h => hFc q h) hFc (fun u t H1 locs ht hvm hw hB hz1 hk1 hS => ?_)
                  obtain ⟨g_21, g_22, g_23, g_24, h_25, hP1, hK1, hD1⟩ := hB
                  rw [ht] at hP1
                  obtain ⟨hP, hD⟩ := va_join (wr := [(m_sides, .inl (cI, 183, (.inl gs))), (m_steps, .inl (cI, 60, (.inl gt)))]) (w1 := [(m0, .inr (11, [.int 0, .ref m_tape, .int 0, .int 0, .int 0, .ref m_read, .int 0, .int 0, .int 0, .ref m_tets, .int 0, .int 0, .int 0, .int 0, .int 0, .int 0, .int 0, .int 0, .ref m_primes, .ref m_often, .ref m_normal, .ref m_termM, .ref m_termP, .ref m_termV, .ref m_sumFrom, .ref m_sumMany, .int 0, .int 0, .int 0, .int 0, .ref m_part, .ref m_fair, .ref m_heap, .ref m_pickTet, .ref m_pickEdge, .ref m_base, .ref m_baseM, .ref m_baseP, .ref m_rowsOf, .int 0, .ref m_grid, .ref m_times, .ref m_boxes, .ref m_cameFrom, .ref m_cameBy, .ref m_steps, .ref m_sides, .int (nI (q_at (bx_mk u0 u1 u2) (k + 1)).length), .int (-1), .ref m_next, .ref m_cube, .ref m_ways])), (m_boxes, .inl (cI, 3600, (.inl g_21))), (m_cameFrom, .inl (cI, 1200, (.inl g_22))), (m_cameBy, .inl (cI, 1200, (.inl g_23))), (m_next, .inl (cI, 3, (.inl g_24)))]) hP hD [0, 1, 2, 3, 4] [5, 6] rfl rfl (by decide) (by decide) hk1 hFc hP1 hD1
                  generalize H1 = H at hP hS ⊢
                  have hP : va_P (dC, dI) vwCl [(m_sides, .inl (cI, 183, (.inl gs))), (m_steps, .inl (cI, 60, (.inl gt))), (m0, .inr (11, [.int 0, .ref m_tape, .int 0, .int 0, .int 0, .ref m_read, .int 0, .int 0, .int 0, .ref m_tets, .int 0, .int 0, .int 0, .int 0, .int 0, .int 0, .int 0, .int 0, .ref m_primes, .ref m_often, .ref m_normal, .ref m_termM, .ref m_termP, .ref m_termV, .ref m_sumFrom, .ref m_sumMany, .int 0, .int 0, .int 0, .int 0, .ref m_part, .ref m_fair, .ref m_heap, .ref m_pickTet, .ref m_pickEdge, .ref m_base, .ref m_baseM, .ref m_baseP, .ref m_rowsOf, .int 0, .ref m_grid, .ref m_times, .ref m_boxes, .ref m_cameFrom, .ref m_cameBy, .ref m_steps, .ref m_sides, .int (nI (q_at (bx_mk u0 u1 u2) (k + 1)).length), .int (-1), .ref m_next, .ref m_cube, .ref m_ways])), (m_boxes, .inl (cI, 3600, (.inl g_21))), (m_cameFrom, .inl (cI, 1200, (.inl g_22))), (m_cameBy, .inl (cI, 1200, (.inl g_23))), (m_next, .inl (cI, 3, (.inl g_24)))] H := hP
                  have hD : va_D A [(m_sides, .inl (cI, 183, (.inl gs))), (m_steps, .inl (cI, 60, (.inl gt))), (m0, .inr (11, [.int 0, .ref m_tape, .int 0, .int 0, .int 0, .ref m_read, .int 0, .int 0, .int 0, .ref m_tets, .int 0, .int 0, .int 0, .int 0, .int 0, .int 0, .int 0, .int 0, .ref m_primes, .ref m_often, .ref m_normal, .ref m_termM, .ref m_termP, .ref m_termV, .ref m_sumFrom, .ref m_sumMany, .int 0, .int 0, .int 0, .int 0, .ref m_part, .ref m_fair, .ref m_heap, .ref m_pickTet, .ref m_pickEdge, .ref m_base, .ref m_baseM, .ref m_baseP, .ref m_rowsOf, .int 0, .ref m_grid, .ref m_times, .ref m_boxes, .ref m_cameFrom, .ref m_cameBy, .ref m_steps, .ref m_sides, .int (nI (q_at (bx_mk u0 u1 u2) (k + 1)).length), .int (-1), .ref m_next, .ref m_cube, .ref m_ways])), (m_boxes, .inl (cI, 3600, (.inl g_21))), (m_cameFrom, .inl (cI, 1200, (.inl g_22))), (m_cameBy, .inl (cI, 1200, (.inl g_23))), (m_next, .inl (cI, 3, (.inl g_24)))] := hD
                  have hpre := q_at_pre (bx_mk u0 u1 u2) k 1
                  have hk1 : k + 1 ≤ (q_at (bx_mk u0 u1 u2) (k + 1)).length := by
                    have h9 := q_pre_len hpre
                    rcases (show k + 1 ≤ (q_at (bx_mk u0 u1 u2) k).length by omega) with h8
                    exact Nat.le_trans h8 h9
                  have hno1 : ∀ (t : Nat) (e : qE), t < k + 1 → (q_at (bx_mk u0 u1 u2) (k + 1))[t]? = some e → ¬ e.1 / 32 = bx_mk v0 v1 v2 / 32 := fun t9 e9 h9 g9 => by
                    obtain ⟨e8, h8⟩ := q_some (show t9 < (q_at (bx_mk u0 u1 u2) k).length by omega)
                    have h7 := q_pre_at hpre h8
                    rw [g9] at h7
                    cases h7
                    rcases (show t9 < k ∨ t9 = k by omega) with z9 | z9
                    · exact hno t9 e9 z9 h8
                    · subst z9
                      rw [hkk] at h8
                      cases h8
                      exact hne
                  obtain ⟨x_26, ex_26⟩ : ∃ y : Int32, y = (nI k) + 1 := ⟨_, rfl⟩
                  refine lv_iinc (v := x_26) (lv' := [(7, .int x_26), (0, .ref m0), (4, .int (nI v0)), (5, .int (nI v1)), (6, .int (nI v2))]) hx hb dX11_plan_137 hl (k := 4) rfl (by rw [ex_26]; rfl) (by decide) rfl (fun ls hl => ?_)
                  obtain rfl : x_26 = nI (k + 1) := ex_26.trans (nI_1 k)
                  have hl : lv_has ls 11 [(7, .int (nI (k + 1))), (0, .ref m0), (4, .int (nI v0)), (5, .int (nI v1)), (6, .int (nI v2))] := hl
                  refine lv_goto (tgt := 76) hx hb dX11_plan_140 (by decide) ?_
                  exact out _ _ _ (ih (k + 1) _ _ _ _ _ _ (by omega) (by omega) hk1 h_25 hno1 _ _ (hP.sub [2, 3, 4, 5, 6, 0, 1] rfl) (hD.sub [2, 3, 4, 5, 6, 0, 1] (by decide) rfl) hS ls (lv_sub hl [1, 2, 3, 4, 0] rfl))
                · have c_20 : t0 = v0 := (nI_eq (a := t0) (b := v0) (by omega) (by omega)).mp c_20
                  refine lv_aload_n hx hb dX11_plan_99 rfl (lv_at hl 0 rfl) ?_
                  refine va_get (D := (dC, dI)) (ci := 11) (v := .ref m_boxes) (C := RX11) (T := TX11) (N := 52) hx hb hts hiX11 hown hK hP 0 rfl rfl 42 (by decide) (hts (.fieldLink RX11 78 "ScissorsTableModel" "boxes" "[I") (by decide +kernel)) (fun _ h9 => h9) rfl dX11_plan_100 ?_
                  refine lv_iconst (v := 3) hx hb dX11_plan_103 (by decide) ?_
                  refine lv_iload hx hb dX11_plan_104 (lv_at hl 4 rfl) ?_
                  refine lv_imul hx hb dX11_plan_106 ?_
                  refine lv_topi (fun x_27 ex_27 => ?_)
                  obtain rfl : x_27 = nI (3 * k) := ex_27.trans (pk_mul 3 k)
                  refine lv_iconst (v := 1) hx hb dX11_plan_107 (by decide) ?_
                  refine lv_iadd hx hb dX11_plan_108 ?_
                  refine lv_topi (fun x_28 ex_28 => ?_)
                  obtain rfl : x_28 = nI ((3 * k) + 1) := ex_28.trans (nI_add (3 * k) 1)
                  refine va_iald hx hb hK hP 1 1 rfl rfl (vp_in_nI (by omega) (by decide)) dX11_plan_109 ?_
                  refine lv_topi (fun x_29 ex_29 => ?_)
                  rw [nI_clamp (show (3 * k) + 1 < 2 ^ 31 by omega)] at ex_29
                  obtain rfl : x_29 = nI t1 := ex_29.trans ((hR k _ hkk).2.1.trans (congrArg nI (bx_y (by omega) (by omega))))
                  refine lv_iload hx hb dX11_plan_110 (lv_at hl 2 rfl) ?_
                  refine lv_icmp_ne (tgt := 131) hx hb dX11_plan_112 (by decide) (fun c_30 => ?_) (fun c_30 => ?_)
                  · have c_30 : ¬ t1 = v1 := fun q9 => c_30 ((nI_eq (a := t1) (b := v1) (by omega) (by omega)).mpr q9)
                    refine lv_aload_n hx hb dX11_plan_131 rfl (lv_at hl 0 rfl) ?_
                    refine lv_iload hx hb dX11_plan_132 (lv_at hl 4 rfl) ?_
                    have hne : ¬ bx_mk t0 t1 t2 / 32 = bx_mk v0 v1 v2 / 32 := fun q9 => c_30 (bx_ne hbb hgi (by omega) q9).2.1
                    have hQe : q_sees k (d + 1) (nb_of (bx_mk t0 t1 t2)) (q_at (bx_mk u0 u1 u2) k) = q_at (bx_mk u0 u1 u2) (k + 1) := (q_exp_some hkk).symm
                    have hkl := q_lt hkk
                    have hl1 := q_len hfin.1 (show k + 1 ≤ 97 by omega)
                    have hPc := hP.sub (ws' := [(m0, .inr (11, [.int 0, .ref m_tape, .int 0, .int 0, .int 0, .ref m_read, .int 0, .int 0, .int 0, .ref m_tets, .int 0, .int 0, .int 0, .int 0, .int 0, .int 0, .int 0, .int 0, .ref m_primes, .ref m_often, .ref m_normal, .ref m_termM, .ref m_termP, .ref m_termV, .ref m_sumFrom, .ref m_sumMany, .int 0, .int 0, .int 0, .int 0, .ref m_part, .ref m_fair, .ref m_heap, .ref m_pickTet, .ref m_pickEdge, .ref m_base, .ref m_baseM, .ref m_baseP, .ref m_rowsOf, .int 0, .ref m_grid, .ref m_times, .ref m_boxes, .ref m_cameFrom, .ref m_cameBy, .ref m_steps, .ref m_sides, .int (nI (q_at (bx_mk u0 u1 u2) k).length), .int (-1), .ref m_next, .ref m_cube, .ref m_ways])), (m_boxes, .inl (cI, 3600, (.inl gb))), (m_cameFrom, .inl (cI, 1200, (.inl gc))), (m_cameBy, .inl (cI, 1200, (.inl gd))), (m_next, .inl (cI, 3, (.inl gn)))]) [0, 1, 2, 3, 4] rfl
                    have hDc := hD.sub (ws' := [(m0, .inr (11, [.int 0, .ref m_tape, .int 0, .int 0, .int 0, .ref m_read, .int 0, .int 0, .int 0, .ref m_tets, .int 0, .int 0, .int 0, .int 0, .int 0, .int 0, .int 0, .int 0, .ref m_primes, .ref m_often, .ref m_normal, .ref m_termM, .ref m_termP, .ref m_termV, .ref m_sumFrom, .ref m_sumMany, .int 0, .int 0, .int 0, .int 0, .ref m_part, .ref m_fair, .ref m_heap, .ref m_pickTet, .ref m_pickEdge, .ref m_base, .ref m_baseM, .ref m_baseP, .ref m_rowsOf, .int 0, .ref m_grid, .ref m_times, .ref m_boxes, .ref m_cameFrom, .ref m_cameBy, .ref m_steps, .ref m_sides, .int (nI (q_at (bx_mk u0 u1 u2) k).length), .int (-1), .ref m_next, .ref m_cube, .ref m_ways])), (m_boxes, .inl (cI, 3600, (.inl gb))), (m_cameFrom, .inl (cI, 1200, (.inl gc))), (m_cameBy, .inl (cI, 1200, (.inl gd))), (m_next, .inl (cI, 3, (.inl gn)))]) [0, 1, 2, 3, 4] (by decide) rfl
                    have hFc := va_free (wc := [(m0, .inr (11, [.int 0, .ref m_tape, .int 0, .int 0, .int 0, .ref m_read, .int 0, .int 0, .int 0, .ref m_tets, .int 0, .int 0, .int 0, .int 0, .int 0, .int 0, .int 0, .int 0, .ref m_primes, .ref m_often, .ref m_normal, .ref m_termM, .ref m_termP, .ref m_termV, .ref m_sumFrom, .ref m_sumMany, .int 0, .int 0, .int 0, .int 0, .ref m_part, .ref m_fair, .ref m_heap, .ref m_pickTet, .ref m_pickEdge, .ref m_base, .ref m_baseM, .ref m_baseP, .ref m_rowsOf, .int 0, .ref m_grid, .ref m_times, .ref m_boxes, .ref m_cameFrom, .ref m_cameBy, .ref m_steps, .ref m_sides, .int (nI (q_at (bx_mk u0 u1 u2) k).length), .int (-1), .ref m_next, .ref m_cube, .ref m_ways])), (m_boxes, .inl (cI, 3600, (.inl gb))), (m_cameFrom, .inl (cI, 1200, (.inl gc))), (m_cameBy, .inl (cI, 1200, (.inl gd))), (m_next, .inl (cI, 3, (.inl gn)))]) hD hS hA [0, 1, 2, 3, 4] rfl
                    refine va_callv (va_runV (As := [.int (nI k)]) (rest := []) ⟨hx, hb, hml, hown, hts⟩ (c_X11_goesFrom l dC dI cB cI cJ H.size m0 m_tape m_read m_tets m_primes m_often m_normal m_termM m_termP m_termV m_sumFrom m_sumMany m_part m_fair m_heap m_pickTet m_pickEdge m_base m_baseM m_baseP m_rowsOf m_grid m_times m_boxes m_cameFrom m_cameBy m_steps m_sides m_next m_cube m_ways (q_at (bx_mk u0 u1 u2) k) (q_at (bx_mk u0 u1 u2) (k + 1)) gb gc gd gn (u0 * u1 * u2) t0 t1 t2 k pk d (⟨ht0, ht1, ht2⟩) htV hkk hI hR hQe hl1) (cwV 1 hts gX11_plan_X11_goesFrom rfl rfl rfl (by decide +kernel) ⟨Nat.le_of_ble_eq_true rfl, Nat.le_of_ble_eq_true rfl⟩) ⟨fun a U g mk q => by obtain ⟨q0, q1, qP, qK, qD⟩ := q; exact ⟨q0, q1, qP, va_K.moved (u := U) (U := U.calling g mk a) (Vm.Alike.refl U.vm) qK, qD⟩, va_recv hK hP (ci := 11) (q0 := 0) rfl rfl, fun U hU hW => ⟨rfl, by rw [hU], by rw [hU]; exact hPc, va_K.moved hW.alike hK, hDc.weaken (fun _ _ _ _ => trivial)⟩⟩ rfl rfl hl.1 rfl (lv_room (Nat.le_of_ble_eq_true rfl)) dX11_plan_134 ⟨Nat.le_of_ble_eq_true rfl, Nat.le_of_ble_eq_true rfl⟩) hS (fun q _ h => hFc q h) hFc (fun u t H1 locs ht hvm hw hB hz1 hk1 hS => ?_)
                    obtain ⟨g_31, g_32, g_33, g_34, h_35, hP1, hK1, hD1⟩ := hB
                    rw [ht] at hP1
                    obtain ⟨hP, hD⟩ := va_join (wr := [(m_sides, .inl (cI, 183, (.inl gs))), (m_steps, .inl (cI, 60, (.inl gt)))]) (w1 := [(m0, .inr (11, [.int 0, .ref m_tape, .int 0, .int 0, .int 0, .ref m_read, .int 0, .int 0, .int 0, .ref m_tets, .int 0, .int 0, .int 0, .int 0, .int 0, .int 0, .int 0, .int 0, .ref m_primes, .ref m_often, .ref m_normal, .ref m_termM, .ref m_termP, .ref m_termV, .ref m_sumFrom, .ref m_sumMany, .int 0, .int 0, .int 0, .int 0, .ref m_part, .ref m_fair, .ref m_heap, .ref m_pickTet, .ref m_pickEdge, .ref m_base, .ref m_baseM, .ref m_baseP, .ref m_rowsOf, .int 0, .ref m_grid, .ref m_times, .ref m_boxes, .ref m_cameFrom, .ref m_cameBy, .ref m_steps, .ref m_sides, .int (nI (q_at (bx_mk u0 u1 u2) (k + 1)).length), .int (-1), .ref m_next, .ref m_cube, .ref m_ways])), (m_boxes, .inl (cI, 3600, (.inl g_31))), (m_cameFrom, .inl (cI, 1200, (.inl g_32))), (m_cameBy, .inl (cI, 1200, (.inl g_33))), (m_next, .inl (cI, 3, (.inl g_34)))]) hP hD [0, 1, 2, 3, 4] [5, 6] rfl rfl (by decide) (by decide) hk1 hFc hP1 hD1
                    generalize H1 = H at hP hS ⊢
                    have hP : va_P (dC, dI) vwCl [(m_sides, .inl (cI, 183, (.inl gs))), (m_steps, .inl (cI, 60, (.inl gt))), (m0, .inr (11, [.int 0, .ref m_tape, .int 0, .int 0, .int 0, .ref m_read, .int 0, .int 0, .int 0, .ref m_tets, .int 0, .int 0, .int 0, .int 0, .int 0, .int 0, .int 0, .int 0, .ref m_primes, .ref m_often, .ref m_normal, .ref m_termM, .ref m_termP, .ref m_termV, .ref m_sumFrom, .ref m_sumMany, .int 0, .int 0, .int 0, .int 0, .ref m_part, .ref m_fair, .ref m_heap, .ref m_pickTet, .ref m_pickEdge, .ref m_base, .ref m_baseM, .ref m_baseP, .ref m_rowsOf, .int 0, .ref m_grid, .ref m_times, .ref m_boxes, .ref m_cameFrom, .ref m_cameBy, .ref m_steps, .ref m_sides, .int (nI (q_at (bx_mk u0 u1 u2) (k + 1)).length), .int (-1), .ref m_next, .ref m_cube, .ref m_ways])), (m_boxes, .inl (cI, 3600, (.inl g_31))), (m_cameFrom, .inl (cI, 1200, (.inl g_32))), (m_cameBy, .inl (cI, 1200, (.inl g_33))), (m_next, .inl (cI, 3, (.inl g_34)))] H := hP
                    have hD : va_D A [(m_sides, .inl (cI, 183, (.inl gs))), (m_steps, .inl (cI, 60, (.inl gt))), (m0, .inr (11, [.int 0, .ref m_tape, .int 0, .int 0, .int 0, .ref m_read, .int 0, .int 0, .int 0, .ref m_tets, .int 0, .int 0, .int 0, .int 0, .int 0, .int 0, .int 0, .int 0, .ref m_primes, .ref m_often, .ref m_normal, .ref m_termM, .ref m_termP, .ref m_termV, .ref m_sumFrom, .ref m_sumMany, .int 0, .int 0, .int 0, .int 0, .ref m_part, .ref m_fair, .ref m_heap, .ref m_pickTet, .ref m_pickEdge, .ref m_base, .ref m_baseM, .ref m_baseP, .ref m_rowsOf, .int 0, .ref m_grid, .ref m_times, .ref m_boxes, .ref m_cameFrom, .ref m_cameBy, .ref m_steps, .ref m_sides, .int (nI (q_at (bx_mk u0 u1 u2) (k + 1)).length), .int (-1), .ref m_next, .ref m_cube, .ref m_ways])), (m_boxes, .inl (cI, 3600, (.inl g_31))), (m_cameFrom, .inl (cI, 1200, (.inl g_32))), (m_cameBy, .inl (cI, 1200, (.inl g_33))), (m_next, .inl (cI, 3, (.inl g_34)))] := hD
                    have hpre := q_at_pre (bx_mk u0 u1 u2) k 1
                    have hk1 : k + 1 ≤ (q_at (bx_mk u0 u1 u2) (k + 1)).length := by
                      have h9 := q_pre_len hpre
                      rcases (show k + 1 ≤ (q_at (bx_mk u0 u1 u2) k).length by omega) with h8
                      exact Nat.le_trans h8 h9
                    have hno1 : ∀ (t : Nat) (e : qE), t < k + 1 → (q_at (bx_mk u0 u1 u2) (k + 1))[t]? = some e → ¬ e.1 / 32 = bx_mk v0 v1 v2 / 32 := fun t9 e9 h9 g9 => by
                      obtain ⟨e8, h8⟩ := q_some (show t9 < (q_at (bx_mk u0 u1 u2) k).length by omega)
                      have h7 := q_pre_at hpre h8
                      rw [g9] at h7
                      cases h7
                      rcases (show t9 < k ∨ t9 = k by omega) with z9 | z9
                      · exact hno t9 e9 z9 h8
                      · subst z9
                        rw [hkk] at h8
                        cases h8
                        exact hne
                    obtain ⟨x_36, ex_36⟩ : ∃ y : Int32, y = (nI k) + 1 := ⟨_, rfl⟩
                    refine lv_iinc (v := x_36) (lv' := [(7, .int x_36), (0, .ref m0), (4, .int (nI v0)), (5, .int (nI v1)), (6, .int (nI v2))]) hx hb dX11_plan_137 hl (k := 4) rfl (by rw [ex_36]; rfl) (by decide) rfl (fun ls hl => ?_)
                    obtain rfl : x_36 = nI (k + 1) := ex_36.trans (nI_1 k)
                    have hl : lv_has ls 11 [(7, .int (nI (k + 1))), (0, .ref m0), (4, .int (nI v0)), (5, .int (nI v1)), (6, .int (nI v2))] := hl
                    refine lv_goto (tgt := 76) hx hb dX11_plan_140 (by decide) ?_
                    exact out _ _ _ (ih (k + 1) _ _ _ _ _ _ (by omega) (by omega) hk1 h_35 hno1 _ _ (hP.sub [2, 3, 4, 5, 6, 0, 1] rfl) (hD.sub [2, 3, 4, 5, 6, 0, 1] (by decide) rfl) hS ls (lv_sub hl [1, 2, 3, 4, 0] rfl))
                  · have c_30 : t1 = v1 := (nI_eq (a := t1) (b := v1) (by omega) (by omega)).mp c_30
                    refine lv_aload_n hx hb dX11_plan_115 rfl (lv_at hl 0 rfl) ?_
                    refine va_get (D := (dC, dI)) (ci := 11) (v := .ref m_boxes) (C := RX11) (T := TX11) (N := 52) hx hb hts hiX11 hown hK hP 0 rfl rfl 42 (by decide) (hts (.fieldLink RX11 78 "ScissorsTableModel" "boxes" "[I") (by decide +kernel)) (fun _ h9 => h9) rfl dX11_plan_116 ?_
                    refine lv_iconst (v := 3) hx hb dX11_plan_119 (by decide) ?_
                    refine lv_iload hx hb dX11_plan_120 (lv_at hl 4 rfl) ?_
                    refine lv_imul hx hb dX11_plan_122 ?_
                    refine lv_topi (fun x_37 ex_37 => ?_)
                    obtain rfl : x_37 = nI (3 * k) := ex_37.trans (pk_mul 3 k)
                    refine lv_iconst (v := 2) hx hb dX11_plan_123 (by decide) ?_
                    refine lv_iadd hx hb dX11_plan_124 ?_
                    refine lv_topi (fun x_38 ex_38 => ?_)
                    obtain rfl : x_38 = nI ((3 * k) + 2) := ex_38.trans (nI_add (3 * k) 2)
                    refine va_iald hx hb hK hP 1 1 rfl rfl (vp_in_nI (by omega) (by decide)) dX11_plan_125 ?_
                    refine lv_topi (fun x_39 ex_39 => ?_)
                    rw [nI_clamp (show (3 * k) + 2 < 2 ^ 31 by omega)] at ex_39
                    obtain rfl : x_39 = nI t2 := ex_39.trans ((hR k _ hkk).2.2.1.trans (congrArg nI (bx_z (by omega))))
                    refine lv_iload hx hb dX11_plan_126 (lv_at hl 3 rfl) ?_
                    refine lv_icmp_eq (tgt := 143) hx hb dX11_plan_128 (by decide) (fun c_40 => ?_) (fun c_40 => ?_)
                    · have c_40 : t2 = v2 := (nI_eq (a := t2) (b := v2) (by omega) (by omega)).mp c_40
                      refine lv_iload hx hb dX11_plan_143 (lv_at hl 4 rfl) ?_
                      refine lv_aload_n hx hb dX11_plan_145 rfl (lv_at hl 0 rfl) ?_
                      refine va_get (D := (dC, dI)) (ci := 11) (v := .int (nI (q_at (bx_mk u0 u1 u2) k).length)) (C := RX11) (T := TX11) (N := 52) hx hb hts hiX11 hown hK hP 0 rfl rfl 47 (by decide) (hts (.fieldLink RX11 448 "ScissorsTableModel" "boxMany" "I") (by decide +kernel)) (fun _ h9 => h9) rfl dX11_plan_146 ?_
                      refine lv_icmp_ne (tgt := 154) hx hb dX11_plan_149 (by decide) (fun _ => ?_) (fun c9 => absurd ((nI_eq (a := k) (b := (q_at (bx_mk u0 u1 u2) k).length) (by omega) (by omega)).mp c9) (by omega))
                      have heq : bx_mk t0 t1 t2 / 32 = bx_mk v0 v1 v2 / 32 := by rw [c_20, c_30, c_40]
                      have hra : r_ans (bx_mk u0 u1 u2) (bx_mk v0 v1 v2) = nI d := r_some hsi h7 hkk heq
                      have hd60 : d ≤ 60 := by
                        have h9 := q_pre_at (q_at_pre (bx_mk u0 u1 u2) k (97 - k)) hkk
                        rw [show k + (97 - k) = 97 by omega] at h9
                        exact hfin.2 k _ h9
                      obtain ⟨h, a0, a1, a2, a3⟩ := q_chain hwf d k _ hkk rfl
                      have hcf : ∀ i, i < d → gc (h i) = nI (h (i + 1)) ∧ h i ≤ 96 ∧ h (i + 1) ≤ 96 := fun i hi => by
                        obtain ⟨b1, b2, ei, b3, b4⟩ := a3 i hi
                        have b5 := (hR (h i) ei b3).2.2.2
                        rw [if_neg (by omega), b4] at b5
                        refine ⟨b5, by omega, ?_⟩
                        rcases (show i + 1 < d ∨ i + 1 = d by omega) with z9 | z9
                        · have := (a3 (i + 1) z9).2.1
                          omega
                        · rw [z9, a1]
                          omega
                      have hcl : gc (h d) = -1 := by
                        have b5 := (hR 0 _ (q_at_0 k)).2.2.2
                        rw [if_pos rfl] at b5
                        rw [a1]
                        exact b5
                      refine lv_aload_n hx hb dX11_plan_154 rfl (lv_at hl 0 rfl) ?_
                      refine lv_iconst (v := 0) hx hb dX11_plan_155 (by decide) ?_
                      refine va_put (D := (dC, dI)) (ci := 11) (v := .int 0) (ty := .int) (C := RX11) (T := TX11) (N := 52) hx hb hts hiX11 tyX11 tyX11_ok nmX11 hown hK hP hD hS 0 rfl rfl 48 (by decide) (hts (.fieldLink RX11 93 "ScissorsTableModel" "stepMany" "I") (by decide +kernel)) (fun _ h9 => h9) rfl (by decide +kernel) rfl rfl (Nat.le_of_ble_eq_true rfl) dX11_plan_156 (fun H locs hP hD hS => ?_)
                      have hP : va_P (dC, dI) vwCl [(m0, .inr (11, [.int 0, .ref m_tape, .int 0, .int 0, .int 0, .ref m_read, .int 0, .int 0, .int 0, .ref m_tets, .int 0, .int 0, .int 0, .int 0, .int 0, .int 0, .int 0, .int 0, .ref m_primes, .ref m_often, .ref m_normal, .ref m_termM, .ref m_termP, .ref m_termV, .ref m_sumFrom, .ref m_sumMany, .int 0, .int 0, .int 0, .int 0, .ref m_part, .ref m_fair, .ref m_heap, .ref m_pickTet, .ref m_pickEdge, .ref m_base, .ref m_baseM, .ref m_baseP, .ref m_rowsOf, .int 0, .ref m_grid, .ref m_times, .ref m_boxes, .ref m_cameFrom, .ref m_cameBy, .ref m_steps, .ref m_sides, .int (nI (q_at (bx_mk u0 u1 u2) k).length), .int 0, .ref m_next, .ref m_cube, .ref m_ways])), (m_boxes, .inl (cI, 3600, (.inl gb))), (m_cameFrom, .inl (cI, 1200, (.inl gc))), (m_cameBy, .inl (cI, 1200, (.inl gd))), (m_next, .inl (cI, 3, (.inl gn))), (m_sides, .inl (cI, 183, (.inl gs))), (m_steps, .inl (cI, 60, (.inl gt)))] H := hP
                      have hD : va_D A [(m0, .inr (11, [.int 0, .ref m_tape, .int 0, .int 0, .int 0, .ref m_read, .int 0, .int 0, .int 0, .ref m_tets, .int 0, .int 0, .int 0, .int 0, .int 0, .int 0, .int 0, .int 0, .ref m_primes, .ref m_often, .ref m_normal, .ref m_termM, .ref m_termP, .ref m_termV, .ref m_sumFrom, .ref m_sumMany, .int 0, .int 0, .int 0, .int 0, .ref m_part, .ref m_fair, .ref m_heap, .ref m_pickTet, .ref m_pickEdge, .ref m_base, .ref m_baseM, .ref m_baseP, .ref m_rowsOf, .int 0, .ref m_grid, .ref m_times, .ref m_boxes, .ref m_cameFrom, .ref m_cameBy, .ref m_steps, .ref m_sides, .int (nI (q_at (bx_mk u0 u1 u2) k).length), .int 0, .ref m_next, .ref m_cube, .ref m_ways])), (m_boxes, .inl (cI, 3600, (.inl gb))), (m_cameFrom, .inl (cI, 1200, (.inl gc))), (m_cameBy, .inl (cI, 1200, (.inl gd))), (m_next, .inl (cI, 3, (.inl gn))), (m_sides, .inl (cI, 183, (.inl gs))), (m_steps, .inl (cI, 60, (.inl gt)))] := hD
                      refine lv_iload hx hb dX11_plan_159 (lv_at hl 4 rfl) ?_
                      refine lv_istore (lv' := [(8, .int (nI k)), (0, .ref m0), (4, .int (nI v0)), (5, .int (nI v1)), (6, .int (nI v2)), (7, .int (nI k))]) hx hb dX11_plan_161 hl (by decide) rfl (fun ls hl => ?_)
                      refine nk_G (fun G2 inn2 out2 => ?_)
                      have loop2 : ∀ (f2 : Nat) (i : Nat) (j5 : i + f2 = d + 1) (j6 : i ≤ d) (H : Heap) (locs : List Loc) (_ : va_P (dC, dI) vwCl [(m0, .inr (11, [.int 0, .ref m_tape, .int 0, .int 0, .int 0, .ref m_read, .int 0, .int 0, .int 0, .ref m_tets, .int 0, .int 0, .int 0, .int 0, .int 0, .int 0, .int 0, .int 0, .ref m_primes, .ref m_often, .ref m_normal, .ref m_termM, .ref m_termP, .ref m_termV, .ref m_sumFrom, .ref m_sumMany, .int 0, .int 0, .int 0, .int 0, .ref m_part, .ref m_fair, .ref m_heap, .ref m_pickTet, .ref m_pickEdge, .ref m_base, .ref m_baseM, .ref m_baseP, .ref m_rowsOf, .int 0, .ref m_grid, .ref m_times, .ref m_boxes, .ref m_cameFrom, .ref m_cameBy, .ref m_steps, .ref m_sides, .int (nI (q_at (bx_mk u0 u1 u2) k).length), .int (nI i), .ref m_next, .ref m_cube, .ref m_ways])), (m_boxes, .inl (cI, 3600, (.inl gb))), (m_cameFrom, .inl (cI, 1200, (.inl gc))), (m_cameBy, .inl (cI, 1200, (.inl gd))), (m_next, .inl (cI, 3, (.inl gn))), (m_sides, .inl (cI, 183, (.inl gs))), (m_steps, .inl (cI, 60, (.inl gt)))] H) (_ : va_D A [(m0, .inr (11, [.int 0, .ref m_tape, .int 0, .int 0, .int 0, .ref m_read, .int 0, .int 0, .int 0, .ref m_tets, .int 0, .int 0, .int 0, .int 0, .int 0, .int 0, .int 0, .int 0, .ref m_primes, .ref m_often, .ref m_normal, .ref m_termM, .ref m_termP, .ref m_termV, .ref m_sumFrom, .ref m_sumMany, .int 0, .int 0, .int 0, .int 0, .ref m_part, .ref m_fair, .ref m_heap, .ref m_pickTet, .ref m_pickEdge, .ref m_base, .ref m_baseM, .ref m_baseP, .ref m_rowsOf, .int 0, .ref m_grid, .ref m_times, .ref m_boxes, .ref m_cameFrom, .ref m_cameBy, .ref m_steps, .ref m_sides, .int (nI (q_at (bx_mk u0 u1 u2) k).length), .int (nI i), .ref m_next, .ref m_cube, .ref m_ways])), (m_boxes, .inl (cI, 3600, (.inl gb))), (m_cameFrom, .inl (cI, 1200, (.inl gc))), (m_cameBy, .inl (cI, 1200, (.inl gd))), (m_next, .inl (cI, 3, (.inl gn))), (m_sides, .inl (cI, 183, (.inl gs))), (m_steps, .inl (cI, 60, (.inl gt)))]) (_ : va_S A s.heap H locs) (ls : Array Slot) (_ : lv_has ls 11 [(0, .ref m0), (7, .int (nI k)), (8, .int (nI (h i)))]), G2 H locs (F0 m 163 ls []) := by
                        intro f2
                        induction f2 with
                        | zero =>
                          intro i j5 j6 H locs hP hD hS ls hl
                          exfalso; omega
                        | succ f2 ih2 =>
                          intro i j5 j6 H locs hP hD hS ls hl
                          refine inn2 _ _ _ ?_
                          rcases (show i < d ∨ d = i by omega) with hii | hii
                          · have hc := hcf i hii
                            refine lv_aload_n hx hb dX11_plan_163 rfl (lv_at hl 0 rfl) ?_
                            refine va_get (D := (dC, dI)) (ci := 11) (v := .ref m_cameFrom) (C := RX11) (T := TX11) (N := 52) hx hb hts hiX11 hown hK hP 0 rfl rfl 43 (by decide) (hts (.fieldLink RX11 81 "ScissorsTableModel" "cameFrom" "[I") (by decide +kernel)) (fun _ h9 => h9) rfl dX11_plan_164 ?_
                            refine lv_iload hx hb dX11_plan_167 (lv_at hl 2 rfl) ?_
                            refine va_iald hx hb hK hP 2 1 rfl rfl (vp_in_nI (by omega) (by decide)) dX11_plan_169 ?_
                            refine lv_topi (fun x_41 ex_41 => ?_)
                            rw [nI_clamp (show h i < 2 ^ 31 by omega)] at ex_41
                            obtain rfl : x_41 = nI (h (i + 1)) := ex_41.trans hc.1
                            refine lv_iconst (v := (-1)) hx hb dX11_plan_170 (by decide) ?_
                            refine lv_icmp_eq (tgt := 196) hx hb dX11_plan_171 (by decide) (fun c9 => absurd c9 (nk_nm1 (by omega))) (fun _ => ?_)
                            refine lv_aload_n hx hb dX11_plan_174 rfl (lv_at hl 0 rfl) ?_
                            refine lv_dup hx hb dX11_plan_175 rfl ?_
                            refine va_get (D := (dC, dI)) (ci := 11) (v := .int (nI i)) (C := RX11) (T := TX11) (N := 52) hx hb hts hiX11 hown hK hP 0 rfl rfl 48 (by decide) (hts (.fieldLink RX11 93 "ScissorsTableModel" "stepMany" "I") (by decide +kernel)) (fun _ h9 => h9) rfl dX11_plan_176 ?_
                            refine lv_iconst (v := 1) hx hb dX11_plan_179 (by decide) ?_
                            refine lv_iadd hx hb dX11_plan_180 ?_
                            refine lv_topi (fun x_42 ex_42 => ?_)
                            obtain rfl : x_42 = nI (i + 1) := ex_42.trans (nI_add i 1)
                            refine va_put (D := (dC, dI)) (ci := 11) (v := .int (nI (i + 1))) (ty := .int) (C := RX11) (T := TX11) (N := 52) hx hb hts hiX11 tyX11 tyX11_ok nmX11 hown hK hP hD hS 0 rfl rfl 48 (by decide) (hts (.fieldLink RX11 93 "ScissorsTableModel" "stepMany" "I") (by decide +kernel)) (fun _ h9 => h9) rfl (by decide +kernel) rfl rfl (Nat.le_of_ble_eq_true rfl) dX11_plan_181 (fun H locs hP hD hS => ?_)
                            have hP : va_P (dC, dI) vwCl [(m0, .inr (11, [.int 0, .ref m_tape, .int 0, .int 0, .int 0, .ref m_read, .int 0, .int 0, .int 0, .ref m_tets, .int 0, .int 0, .int 0, .int 0, .int 0, .int 0, .int 0, .int 0, .ref m_primes, .ref m_often, .ref m_normal, .ref m_termM, .ref m_termP, .ref m_termV, .ref m_sumFrom, .ref m_sumMany, .int 0, .int 0, .int 0, .int 0, .ref m_part, .ref m_fair, .ref m_heap, .ref m_pickTet, .ref m_pickEdge, .ref m_base, .ref m_baseM, .ref m_baseP, .ref m_rowsOf, .int 0, .ref m_grid, .ref m_times, .ref m_boxes, .ref m_cameFrom, .ref m_cameBy, .ref m_steps, .ref m_sides, .int (nI (q_at (bx_mk u0 u1 u2) k).length), .int (nI (i + 1)), .ref m_next, .ref m_cube, .ref m_ways])), (m_boxes, .inl (cI, 3600, (.inl gb))), (m_cameFrom, .inl (cI, 1200, (.inl gc))), (m_cameBy, .inl (cI, 1200, (.inl gd))), (m_next, .inl (cI, 3, (.inl gn))), (m_sides, .inl (cI, 183, (.inl gs))), (m_steps, .inl (cI, 60, (.inl gt)))] H := hP
                            have hD : va_D A [(m0, .inr (11, [.int 0, .ref m_tape, .int 0, .int 0, .int 0, .ref m_read, .int 0, .int 0, .int 0, .ref m_tets, .int 0, .int 0, .int 0, .int 0, .int 0, .int 0, .int 0, .int 0, .ref m_primes, .ref m_often, .ref m_normal, .ref m_termM, .ref m_termP, .ref m_termV, .ref m_sumFrom, .ref m_sumMany, .int 0, .int 0, .int 0, .int 0, .ref m_part, .ref m_fair, .ref m_heap, .ref m_pickTet, .ref m_pickEdge, .ref m_base, .ref m_baseM, .ref m_baseP, .ref m_rowsOf, .int 0, .ref m_grid, .ref m_times, .ref m_boxes, .ref m_cameFrom, .ref m_cameBy, .ref m_steps, .ref m_sides, .int (nI (q_at (bx_mk u0 u1 u2) k).length), .int (nI (i + 1)), .ref m_next, .ref m_cube, .ref m_ways])), (m_boxes, .inl (cI, 3600, (.inl gb))), (m_cameFrom, .inl (cI, 1200, (.inl gc))), (m_cameBy, .inl (cI, 1200, (.inl gd))), (m_next, .inl (cI, 3, (.inl gn))), (m_sides, .inl (cI, 183, (.inl gs))), (m_steps, .inl (cI, 60, (.inl gt)))] := hD
                            refine lv_aload_n hx hb dX11_plan_184 rfl (lv_at hl 0 rfl) ?_
                            refine va_get (D := (dC, dI)) (ci := 11) (v := .ref m_cameFrom) (C := RX11) (T := TX11) (N := 52) hx hb hts hiX11 hown hK hP 0 rfl rfl 43 (by decide) (hts (.fieldLink RX11 81 "ScissorsTableModel" "cameFrom" "[I") (by decide +kernel)) (fun _ h9 => h9) rfl dX11_plan_185 ?_
                            refine lv_iload hx hb dX11_plan_188 (lv_at hl 2 rfl) ?_
                            refine va_iald hx hb hK hP 2 1 rfl rfl (vp_in_nI (by omega) (by decide)) dX11_plan_190 ?_
                            refine lv_topi (fun x_43 ex_43 => ?_)
                            rw [nI_clamp (show h i < 2 ^ 31 by omega)] at ex_43
                            obtain rfl : x_43 = nI (h (i + 1)) := ex_43.trans hc.1
                            refine lv_istore (lv' := [(8, .int (nI (h (i + 1)))), (0, .ref m0), (7, .int (nI k))]) hx hb dX11_plan_191 hl (by decide) rfl (fun ls hl => ?_)
                            refine lv_goto (tgt := 163) hx hb dX11_plan_193 (by decide) ?_
                            exact out2 _ _ _ (ih2 (i + 1) (by omega) (by omega) _ _ (hP.sub [0, 1, 2, 3, 4, 5, 6] rfl) (hD.sub [0, 1, 2, 3, 4, 5, 6] (by decide) rfl) hS ls (lv_sub hl [1, 2, 0] rfl))
                          · subst hii
                            have hl : lv_has ls 11 [(0, .ref m0), (7, .int (nI k)), (8, .int (nI (h d)))] := hl
                            have hP : va_P (dC, dI) vwCl [(m0, .inr (11, [.int 0, .ref m_tape, .int 0, .int 0, .int 0, .ref m_read, .int 0, .int 0, .int 0, .ref m_tets, .int 0, .int 0, .int 0, .int 0, .int 0, .int 0, .int 0, .int 0, .ref m_primes, .ref m_often, .ref m_normal, .ref m_termM, .ref m_termP, .ref m_termV, .ref m_sumFrom, .ref m_sumMany, .int 0, .int 0, .int 0, .int 0, .ref m_part, .ref m_fair, .ref m_heap, .ref m_pickTet, .ref m_pickEdge, .ref m_base, .ref m_baseM, .ref m_baseP, .ref m_rowsOf, .int 0, .ref m_grid, .ref m_times, .ref m_boxes, .ref m_cameFrom, .ref m_cameBy, .ref m_steps, .ref m_sides, .int (nI (q_at (bx_mk u0 u1 u2) k).length), .int (nI d), .ref m_next, .ref m_cube, .ref m_ways])), (m_boxes, .inl (cI, 3600, (.inl gb))), (m_cameFrom, .inl (cI, 1200, (.inl gc))), (m_cameBy, .inl (cI, 1200, (.inl gd))), (m_next, .inl (cI, 3, (.inl gn))), (m_sides, .inl (cI, 183, (.inl gs))), (m_steps, .inl (cI, 60, (.inl gt)))] H := hP
                            have hD : va_D A [(m0, .inr (11, [.int 0, .ref m_tape, .int 0, .int 0, .int 0, .ref m_read, .int 0, .int 0, .int 0, .ref m_tets, .int 0, .int 0, .int 0, .int 0, .int 0, .int 0, .int 0, .int 0, .ref m_primes, .ref m_often, .ref m_normal, .ref m_termM, .ref m_termP, .ref m_termV, .ref m_sumFrom, .ref m_sumMany, .int 0, .int 0, .int 0, .int 0, .ref m_part, .ref m_fair, .ref m_heap, .ref m_pickTet, .ref m_pickEdge, .ref m_base, .ref m_baseM, .ref m_baseP, .ref m_rowsOf, .int 0, .ref m_grid, .ref m_times, .ref m_boxes, .ref m_cameFrom, .ref m_cameBy, .ref m_steps, .ref m_sides, .int (nI (q_at (bx_mk u0 u1 u2) k).length), .int (nI d), .ref m_next, .ref m_cube, .ref m_ways])), (m_boxes, .inl (cI, 3600, (.inl gb))), (m_cameFrom, .inl (cI, 1200, (.inl gc))), (m_cameBy, .inl (cI, 1200, (.inl gd))), (m_next, .inl (cI, 3, (.inl gn))), (m_sides, .inl (cI, 183, (.inl gs))), (m_steps, .inl (cI, 60, (.inl gt)))] := hD
                            refine lv_aload_n hx hb dX11_plan_163 rfl (lv_at hl 0 rfl) ?_
                            refine va_get (D := (dC, dI)) (ci := 11) (v := .ref m_cameFrom) (C := RX11) (T := TX11) (N := 52) hx hb hts hiX11 hown hK hP 0 rfl rfl 43 (by decide) (hts (.fieldLink RX11 81 "ScissorsTableModel" "cameFrom" "[I") (by decide +kernel)) (fun _ h9 => h9) rfl dX11_plan_164 ?_
                            refine lv_iload hx hb dX11_plan_167 (lv_at hl 2 rfl) ?_
                            refine va_iald hx hb hK hP 2 1 rfl rfl (vp_in_nI (by omega) (by decide)) dX11_plan_169 ?_
                            refine lv_topi (fun x_44 ex_44 => ?_)
                            rw [nI_clamp (show h d < 2 ^ 31 by omega)] at ex_44
                            obtain rfl : x_44 = -1 := ex_44.trans hcl
                            refine lv_iconst (v := (-1)) hx hb dX11_plan_170 (by decide) ?_
                            refine lv_icmp_eq (tgt := 196) hx hb dX11_plan_171 (by decide) (fun _ => ?_) (fun c => absurd (by decide) c)
                            refine lv_aload_n hx hb dX11_plan_196 rfl (lv_at hl 0 rfl) ?_
                            refine va_get (D := (dC, dI)) (ci := 11) (v := .int (nI d)) (C := RX11) (T := TX11) (N := 52) hx hb hts hiX11 hown hK hP 0 rfl rfl 48 (by decide) (hts (.fieldLink RX11 93 "ScissorsTableModel" "stepMany" "I") (by decide +kernel)) (fun _ h9 => h9) rfl dX11_plan_197 ?_
                            refine lv_istore (lv' := [(8, .int (nI d)), (0, .ref m0), (7, .int (nI k))]) hx hb dX11_plan_200 hl (by decide) rfl (fun ls hl => ?_)
                            refine lv_iload hx hb dX11_plan_202 (lv_at hl 2 rfl) ?_
                            refine lv_istore (lv' := [(9, .int (nI k)), (8, .int (nI d)), (0, .ref m0), (7, .int (nI k))]) hx hb dX11_plan_204 hl (by decide) rfl (fun ls hl => ?_)
                            refine nk_G (fun G3 inn3 out3 => ?_)
                            have loop3 : ∀ (f3 : Nat) (j : Nat) (zs : Nat → Int32) (zt : Nat → Int32) (l5 : j + f3 = d + 1) (l6 : j ≤ d) (H : Heap) (locs : List Loc) (_ : va_P (dC, dI) vwCl [(m0, .inr (11, [.int 0, .ref m_tape, .int 0, .int 0, .int 0, .ref m_read, .int 0, .int 0, .int 0, .ref m_tets, .int 0, .int 0, .int 0, .int 0, .int 0, .int 0, .int 0, .int 0, .ref m_primes, .ref m_often, .ref m_normal, .ref m_termM, .ref m_termP, .ref m_termV, .ref m_sumFrom, .ref m_sumMany, .int 0, .int 0, .int 0, .int 0, .ref m_part, .ref m_fair, .ref m_heap, .ref m_pickTet, .ref m_pickEdge, .ref m_base, .ref m_baseM, .ref m_baseP, .ref m_rowsOf, .int 0, .ref m_grid, .ref m_times, .ref m_boxes, .ref m_cameFrom, .ref m_cameBy, .ref m_steps, .ref m_sides, .int (nI (q_at (bx_mk u0 u1 u2) k).length), .int (nI d), .ref m_next, .ref m_cube, .ref m_ways])), (m_boxes, .inl (cI, 3600, (.inl gb))), (m_cameFrom, .inl (cI, 1200, (.inl gc))), (m_cameBy, .inl (cI, 1200, (.inl gd))), (m_next, .inl (cI, 3, (.inl gn))), (m_sides, .inl (cI, 183, (.inl zs))), (m_steps, .inl (cI, 60, (.inl zt)))] H) (_ : va_D A [(m0, .inr (11, [.int 0, .ref m_tape, .int 0, .int 0, .int 0, .ref m_read, .int 0, .int 0, .int 0, .ref m_tets, .int 0, .int 0, .int 0, .int 0, .int 0, .int 0, .int 0, .int 0, .ref m_primes, .ref m_often, .ref m_normal, .ref m_termM, .ref m_termP, .ref m_termV, .ref m_sumFrom, .ref m_sumMany, .int 0, .int 0, .int 0, .int 0, .ref m_part, .ref m_fair, .ref m_heap, .ref m_pickTet, .ref m_pickEdge, .ref m_base, .ref m_baseM, .ref m_baseP, .ref m_rowsOf, .int 0, .ref m_grid, .ref m_times, .ref m_boxes, .ref m_cameFrom, .ref m_cameBy, .ref m_steps, .ref m_sides, .int (nI (q_at (bx_mk u0 u1 u2) k).length), .int (nI d), .ref m_next, .ref m_cube, .ref m_ways])), (m_boxes, .inl (cI, 3600, (.inl gb))), (m_cameFrom, .inl (cI, 1200, (.inl gc))), (m_cameBy, .inl (cI, 1200, (.inl gd))), (m_next, .inl (cI, 3, (.inl gn))), (m_sides, .inl (cI, 183, (.inl zs))), (m_steps, .inl (cI, 60, (.inl zt)))]) (_ : va_S A s.heap H locs) (ls : Array Slot) (_ : lv_has ls 11 [(0, .ref m0), (8, .int (nI (d - j))), (9, .int (nI (h j)))]), G3 H locs (F0 m 206 ls []) := by
                              intro f3
                              induction f3 with
                              | zero =>
                                intro j zs zt l5 l6 H locs hP hD hS ls hl
                                exfalso; omega
                              | succ f3 ih3 =>
                                intro j zs zt l5 l6 H locs hP hD hS ls hl
                                refine inn3 _ _ _ ?_
                                rcases (show j < d ∨ d = j by omega) with hii | hii
                                · have hc := hcf j hii
                                  refine lv_iload hx hb dX11_plan_206 (lv_at hl 2 rfl) ?_
                                  refine lv_iconst (v := (-1)) hx hb dX11_plan_208 (by decide) ?_
                                  refine lv_icmp_eq (tgt := 285) hx hb dX11_plan_209 (by decide) (fun c9 => absurd c9 (nk_nm1 (by omega))) (fun _ => ?_)
                                  refine lv_iconst (v := 0) hx hb dX11_plan_212 (by decide) ?_
                                  refine lv_istore (lv' := [(10, .int 0), (0, .ref m0), (8, .int (nI (d - j))), (9, .int (nI (h j)))]) hx hb dX11_plan_213 hl (by decide) rfl (fun ls hl => ?_)
                                  refine lv_iload hx hb dX11_plan_215 (lv_at hl 0 rfl) ?_
                                  refine lv_iconst (v := 3) hx hb dX11_plan_217 (by decide) ?_
                                  refine lv_icmp_ge (tgt := 251) hx hb dX11_plan_218 (by decide) (fun c => absurd c (by decide)) (fun _ => ?_)
                                  refine lv_aload_n hx hb dX11_plan_221 rfl (lv_at hl 1 rfl) ?_
                                  refine va_get (D := (dC, dI)) (ci := 11) (v := .ref m_sides) (C := RX11) (T := TX11) (N := 52) hx hb hts hiX11 hown hK hP 0 rfl rfl 46 (by decide) (hts (.fieldLink RX11 90 "ScissorsTableModel" "sides" "[I") (by decide +kernel)) (fun _ h9 => h9) rfl dX11_plan_222 ?_
                                  refine lv_iconst (v := 3) hx hb dX11_plan_225 (by decide) ?_
                                  refine lv_iload hx hb dX11_plan_226 (lv_at hl 2 rfl) ?_
                                  refine lv_imul hx hb dX11_plan_228 ?_
                                  refine lv_topi (fun x_45 ex_45 => ?_)
                                  obtain rfl : x_45 = nI (3 * (d - j)) := ex_45.trans (pk_mul 3 (d - j))
                                  refine lv_iload hx hb dX11_plan_229 (lv_at hl 0 rfl) ?_
                                  refine lv_iadd hx hb dX11_plan_231 ?_
                                  refine lv_topi (fun x_46 ex_46 => ?_)
                                  obtain rfl : x_46 = nI ((3 * (d - j)) + 0) := ex_46.trans (nI_add (3 * (d - j)) 0)
                                  refine lv_aload_n hx hb dX11_plan_232 rfl (lv_at hl 1 rfl) ?_
                                  refine va_get (D := (dC, dI)) (ci := 11) (v := .ref m_boxes) (C := RX11) (T := TX11) (N := 52) hx hb hts hiX11 hown hK hP 0 rfl rfl 42 (by decide) (hts (.fieldLink RX11 78 "ScissorsTableModel" "boxes" "[I") (by decide +kernel)) (fun _ h9 => h9) rfl dX11_plan_233 ?_
                                  refine lv_iconst (v := 3) hx hb dX11_plan_236 (by decide) ?_
                                  refine lv_iload hx hb dX11_plan_237 (lv_at hl 3 rfl) ?_
                                  refine lv_imul hx hb dX11_plan_239 ?_
                                  refine lv_topi (fun x_47 ex_47 => ?_)
                                  obtain rfl : x_47 = nI (3 * (h j)) := ex_47.trans (pk_mul 3 (h j))
                                  refine lv_iload hx hb dX11_plan_240 (lv_at hl 0 rfl) ?_
                                  refine lv_iadd hx hb dX11_plan_242 ?_
                                  refine lv_topi (fun x_48 ex_48 => ?_)
                                  obtain rfl : x_48 = nI ((3 * (h j)) + 0) := ex_48.trans (nI_add (3 * (h j)) 0)
                                  refine va_iald hx hb hK hP 1 1 rfl rfl (vp_in_nI (by omega) (by decide)) dX11_plan_243 ?_
                                  refine lv_topi (fun x_49 ex_49 => ?_)
                                  rw [nI_clamp (show (3 * (h j)) + 0 < 2 ^ 31 by omega)] at ex_49
                                  refine va_iast hx hb hK hP hD hS 5 1 rfl rfl (vp_in_nI (by omega) (by decide)) dX11_plan_244 (fun H locs hP hD hS => ?_)
                                  rw [nI_clamp (show (3 * (d - j)) + 0 < 2 ^ 31 by omega)] at hP hD
                                  have hP : va_P (dC, dI) vwCl [(m0, .inr (11, [.int 0, .ref m_tape, .int 0, .int 0, .int 0, .ref m_read, .int 0, .int 0, .int 0, .ref m_tets, .int 0, .int 0, .int 0, .int 0, .int 0, .int 0, .int 0, .int 0, .ref m_primes, .ref m_often, .ref m_normal, .ref m_termM, .ref m_termP, .ref m_termV, .ref m_sumFrom, .ref m_sumMany, .int 0, .int 0, .int 0, .int 0, .ref m_part, .ref m_fair, .ref m_heap, .ref m_pickTet, .ref m_pickEdge, .ref m_base, .ref m_baseM, .ref m_baseP, .ref m_rowsOf, .int 0, .ref m_grid, .ref m_times, .ref m_boxes, .ref m_cameFrom, .ref m_cameBy, .ref m_steps, .ref m_sides, .int (nI (q_at (bx_mk u0 u1 u2) k).length), .int (nI d), .ref m_next, .ref m_cube, .ref m_ways])), (m_boxes, .inl (cI, 3600, (.inl gb))), (m_cameFrom, .inl (cI, 1200, (.inl gc))), (m_cameBy, .inl (cI, 1200, (.inl gd))), (m_next, .inl (cI, 3, (.inl gn))), (m_sides, .inl (cI, 183, (.inl (upd zs ((3 * (d - j)) + 0) x_49)))), (m_steps, .inl (cI, 60, (.inl zt)))] H := hP
                                  have hD : va_D A [(m0, .inr (11, [.int 0, .ref m_tape, .int 0, .int 0, .int 0, .ref m_read, .int 0, .int 0, .int 0, .ref m_tets, .int 0, .int 0, .int 0, .int 0, .int 0, .int 0, .int 0, .int 0, .ref m_primes, .ref m_often, .ref m_normal, .ref m_termM, .ref m_termP, .ref m_termV, .ref m_sumFrom, .ref m_sumMany, .int 0, .int 0, .int 0, .int 0, .ref m_part, .ref m_fair, .ref m_heap, .ref m_pickTet, .ref m_pickEdge, .ref m_base, .ref m_baseM, .ref m_baseP, .ref m_rowsOf, .int 0, .ref m_grid, .ref m_times, .ref m_boxes, .ref m_cameFrom, .ref m_cameBy, .ref m_steps, .ref m_sides, .int (nI (q_at (bx_mk u0 u1 u2) k).length), .int (nI d), .ref m_next, .ref m_cube, .ref m_ways])), (m_boxes, .inl (cI, 3600, (.inl gb))), (m_cameFrom, .inl (cI, 1200, (.inl gc))), (m_cameBy, .inl (cI, 1200, (.inl gd))), (m_next, .inl (cI, 3, (.inl gn))), (m_sides, .inl (cI, 183, (.inl (upd zs ((3 * (d - j)) + 0) x_49)))), (m_steps, .inl (cI, 60, (.inl zt)))] := hD
                                  refine lv_iinc (v := 1) (lv' := [(10, .int 1), (0, .ref m0), (8, .int (nI (d - j))), (9, .int (nI (h j)))]) hx hb dX11_plan_245 hl (k := 0) rfl (by decide) (by decide) rfl (fun ls hl => ?_)
                                  refine lv_goto (tgt := 215) hx hb dX11_plan_248 (by decide) ?_
                                  refine lv_iload hx hb dX11_plan_215 (lv_at hl 0 rfl) ?_
                                  refine lv_iconst (v := 3) hx hb dX11_plan_217 (by decide) ?_
                                  refine lv_icmp_ge (tgt := 251) hx hb dX11_plan_218 (by decide) (fun c => absurd c (by decide)) (fun _ => ?_)
                                  refine lv_aload_n hx hb dX11_plan_221 rfl (lv_at hl 1 rfl) ?_
                                  refine va_get (D := (dC, dI)) (ci := 11) (v := .ref m_sides) (C := RX11) (T := TX11) (N := 52) hx hb hts hiX11 hown hK hP 0 rfl rfl 46 (by decide) (hts (.fieldLink RX11 90 "ScissorsTableModel" "sides" "[I") (by decide +kernel)) (fun _ h9 => h9) rfl dX11_plan_222 ?_
                                  refine lv_iconst (v := 3) hx hb dX11_plan_225 (by decide) ?_
                                  refine lv_iload hx hb dX11_plan_226 (lv_at hl 2 rfl) ?_
                                  refine lv_imul hx hb dX11_plan_228 ?_
                                  refine lv_topi (fun x_50 ex_50 => ?_)
                                  obtain rfl : x_50 = nI (3 * (d - j)) := ex_50.trans (pk_mul 3 (d - j))
                                  refine lv_iload hx hb dX11_plan_229 (lv_at hl 0 rfl) ?_
                                  refine lv_iadd hx hb dX11_plan_231 ?_
                                  refine lv_topi (fun x_51 ex_51 => ?_)
                                  obtain rfl : x_51 = nI ((3 * (d - j)) + 1) := ex_51.trans (nI_add (3 * (d - j)) 1)
                                  refine lv_aload_n hx hb dX11_plan_232 rfl (lv_at hl 1 rfl) ?_
                                  refine va_get (D := (dC, dI)) (ci := 11) (v := .ref m_boxes) (C := RX11) (T := TX11) (N := 52) hx hb hts hiX11 hown hK hP 0 rfl rfl 42 (by decide) (hts (.fieldLink RX11 78 "ScissorsTableModel" "boxes" "[I") (by decide +kernel)) (fun _ h9 => h9) rfl dX11_plan_233 ?_
                                  refine lv_iconst (v := 3) hx hb dX11_plan_236 (by decide) ?_
                                  refine lv_iload hx hb dX11_plan_237 (lv_at hl 3 rfl) ?_
                                  refine lv_imul hx hb dX11_plan_239 ?_
                                  refine lv_topi (fun x_52 ex_52 => ?_)
                                  obtain rfl : x_52 = nI (3 * (h j)) := ex_52.trans (pk_mul 3 (h j))
                                  refine lv_iload hx hb dX11_plan_240 (lv_at hl 0 rfl) ?_
                                  refine lv_iadd hx hb dX11_plan_242 ?_
                                  refine lv_topi (fun x_53 ex_53 => ?_)
                                  obtain rfl : x_53 = nI ((3 * (h j)) + 1) := ex_53.trans (nI_add (3 * (h j)) 1)
                                  refine va_iald hx hb hK hP 1 1 rfl rfl (vp_in_nI (by omega) (by decide)) dX11_plan_243 ?_
                                  refine lv_topi (fun x_54 ex_54 => ?_)
                                  rw [nI_clamp (show (3 * (h j)) + 1 < 2 ^ 31 by omega)] at ex_54
                                  refine va_iast hx hb hK hP hD hS 5 1 rfl rfl (vp_in_nI (by omega) (by decide)) dX11_plan_244 (fun H locs hP hD hS => ?_)
                                  rw [nI_clamp (show (3 * (d - j)) + 1 < 2 ^ 31 by omega)] at hP hD
                                  have hP : va_P (dC, dI) vwCl [(m0, .inr (11, [.int 0, .ref m_tape, .int 0, .int 0, .int 0, .ref m_read, .int 0, .int 0, .int 0, .ref m_tets, .int 0, .int 0, .int 0, .int 0, .int 0, .int 0, .int 0, .int 0, .ref m_primes, .ref m_often, .ref m_normal, .ref m_termM, .ref m_termP, .ref m_termV, .ref m_sumFrom, .ref m_sumMany, .int 0, .int 0, .int 0, .int 0, .ref m_part, .ref m_fair, .ref m_heap, .ref m_pickTet, .ref m_pickEdge, .ref m_base, .ref m_baseM, .ref m_baseP, .ref m_rowsOf, .int 0, .ref m_grid, .ref m_times, .ref m_boxes, .ref m_cameFrom, .ref m_cameBy, .ref m_steps, .ref m_sides, .int (nI (q_at (bx_mk u0 u1 u2) k).length), .int (nI d), .ref m_next, .ref m_cube, .ref m_ways])), (m_boxes, .inl (cI, 3600, (.inl gb))), (m_cameFrom, .inl (cI, 1200, (.inl gc))), (m_cameBy, .inl (cI, 1200, (.inl gd))), (m_next, .inl (cI, 3, (.inl gn))), (m_sides, .inl (cI, 183, (.inl (upd (upd zs ((3 * (d - j)) + 0) x_49) ((3 * (d - j)) + 1) x_54)))), (m_steps, .inl (cI, 60, (.inl zt)))] H := hP
                                  have hD : va_D A [(m0, .inr (11, [.int 0, .ref m_tape, .int 0, .int 0, .int 0, .ref m_read, .int 0, .int 0, .int 0, .ref m_tets, .int 0, .int 0, .int 0, .int 0, .int 0, .int 0, .int 0, .int 0, .ref m_primes, .ref m_often, .ref m_normal, .ref m_termM, .ref m_termP, .ref m_termV, .ref m_sumFrom, .ref m_sumMany, .int 0, .int 0, .int 0, .int 0, .ref m_part, .ref m_fair, .ref m_heap, .ref m_pickTet, .ref m_pickEdge, .ref m_base, .ref m_baseM, .ref m_baseP, .ref m_rowsOf, .int 0, .ref m_grid, .ref m_times, .ref m_boxes, .ref m_cameFrom, .ref m_cameBy, .ref m_steps, .ref m_sides, .int (nI (q_at (bx_mk u0 u1 u2) k).length), .int (nI d), .ref m_next, .ref m_cube, .ref m_ways])), (m_boxes, .inl (cI, 3600, (.inl gb))), (m_cameFrom, .inl (cI, 1200, (.inl gc))), (m_cameBy, .inl (cI, 1200, (.inl gd))), (m_next, .inl (cI, 3, (.inl gn))), (m_sides, .inl (cI, 183, (.inl (upd (upd zs ((3 * (d - j)) + 0) x_49) ((3 * (d - j)) + 1) x_54)))), (m_steps, .inl (cI, 60, (.inl zt)))] := hD
                                  refine lv_iinc (v := 2) (lv' := [(10, .int 2), (0, .ref m0), (8, .int (nI (d - j))), (9, .int (nI (h j)))]) hx hb dX11_plan_245 hl (k := 0) rfl (by decide) (by decide) rfl (fun ls hl => ?_)
                                  refine lv_goto (tgt := 215) hx hb dX11_plan_248 (by decide) ?_
                                  refine lv_iload hx hb dX11_plan_215 (lv_at hl 0 rfl) ?_
                                  refine lv_iconst (v := 3) hx hb dX11_plan_217 (by decide) ?_
                                  refine lv_icmp_ge (tgt := 251) hx hb dX11_plan_218 (by decide) (fun c => absurd c (by decide)) (fun _ => ?_)
                                  refine lv_aload_n hx hb dX11_plan_221 rfl (lv_at hl 1 rfl) ?_
                                  refine va_get (D := (dC, dI)) (ci := 11) (v := .ref m_sides) (C := RX11) (T := TX11) (N := 52) hx hb hts hiX11 hown hK hP 0 rfl rfl 46 (by decide) (hts (.fieldLink RX11 90 "ScissorsTableModel" "sides" "[I") (by decide +kernel)) (fun _ h9 => h9) rfl dX11_plan_222 ?_
                                  refine lv_iconst (v := 3) hx hb dX11_plan_225 (by decide) ?_
                                  refine lv_iload hx hb dX11_plan_226 (lv_at hl 2 rfl) ?_
                                  refine lv_imul hx hb dX11_plan_228 ?_
                                  refine lv_topi (fun x_55 ex_55 => ?_)
                                  obtain rfl : x_55 = nI (3 * (d - j)) := ex_55.trans (pk_mul 3 (d - j))
                                  refine lv_iload hx hb dX11_plan_229 (lv_at hl 0 rfl) ?_
                                  refine lv_iadd hx hb dX11_plan_231 ?_
                                  refine lv_topi (fun x_56 ex_56 => ?_)
                                  obtain rfl : x_56 = nI ((3 * (d - j)) + 2) := ex_56.trans (nI_add (3 * (d - j)) 2)
                                  refine lv_aload_n hx hb dX11_plan_232 rfl (lv_at hl 1 rfl) ?_
                                  refine va_get (D := (dC, dI)) (ci := 11) (v := .ref m_boxes) (C := RX11) (T := TX11) (N := 52) hx hb hts hiX11 hown hK hP 0 rfl rfl 42 (by decide) (hts (.fieldLink RX11 78 "ScissorsTableModel" "boxes" "[I") (by decide +kernel)) (fun _ h9 => h9) rfl dX11_plan_233 ?_
                                  refine lv_iconst (v := 3) hx hb dX11_plan_236 (by decide) ?_
                                  refine lv_iload hx hb dX11_plan_237 (lv_at hl 3 rfl) ?_
                                  refine lv_imul hx hb dX11_plan_239 ?_
                                  refine lv_topi (fun x_57 ex_57 => ?_)
                                  obtain rfl : x_57 = nI (3 * (h j)) := ex_57.trans (pk_mul 3 (h j))
                                  refine lv_iload hx hb dX11_plan_240 (lv_at hl 0 rfl) ?_
                                  refine lv_iadd hx hb dX11_plan_242 ?_
                                  refine lv_topi (fun x_58 ex_58 => ?_)
                                  obtain rfl : x_58 = nI ((3 * (h j)) + 2) := ex_58.trans (nI_add (3 * (h j)) 2)
                                  refine va_iald hx hb hK hP 1 1 rfl rfl (vp_in_nI (by omega) (by decide)) dX11_plan_243 ?_
                                  refine lv_topi (fun x_59 ex_59 => ?_)
                                  rw [nI_clamp (show (3 * (h j)) + 2 < 2 ^ 31 by omega)] at ex_59
                                  refine va_iast hx hb hK hP hD hS 5 1 rfl rfl (vp_in_nI (by omega) (by decide)) dX11_plan_244 (fun H locs hP hD hS => ?_)
                                  rw [nI_clamp (show (3 * (d - j)) + 2 < 2 ^ 31 by omega)] at hP hD
                                  have hP : va_P (dC, dI) vwCl [(m0, .inr (11, [.int 0, .ref m_tape, .int 0, .int 0, .int 0, .ref m_read, .int 0, .int 0, .int 0, .ref m_tets, .int 0, .int 0, .int 0, .int 0, .int 0, .int 0, .int 0, .int 0, .ref m_primes, .ref m_often, .ref m_normal, .ref m_termM, .ref m_termP, .ref m_termV, .ref m_sumFrom, .ref m_sumMany, .int 0, .int 0, .int 0, .int 0, .ref m_part, .ref m_fair, .ref m_heap, .ref m_pickTet, .ref m_pickEdge, .ref m_base, .ref m_baseM, .ref m_baseP, .ref m_rowsOf, .int 0, .ref m_grid, .ref m_times, .ref m_boxes, .ref m_cameFrom, .ref m_cameBy, .ref m_steps, .ref m_sides, .int (nI (q_at (bx_mk u0 u1 u2) k).length), .int (nI d), .ref m_next, .ref m_cube, .ref m_ways])), (m_boxes, .inl (cI, 3600, (.inl gb))), (m_cameFrom, .inl (cI, 1200, (.inl gc))), (m_cameBy, .inl (cI, 1200, (.inl gd))), (m_next, .inl (cI, 3, (.inl gn))), (m_sides, .inl (cI, 183, (.inl (upd (upd (upd zs ((3 * (d - j)) + 0) x_49) ((3 * (d - j)) + 1) x_54) ((3 * (d - j)) + 2) x_59)))), (m_steps, .inl (cI, 60, (.inl zt)))] H := hP
                                  have hD : va_D A [(m0, .inr (11, [.int 0, .ref m_tape, .int 0, .int 0, .int 0, .ref m_read, .int 0, .int 0, .int 0, .ref m_tets, .int 0, .int 0, .int 0, .int 0, .int 0, .int 0, .int 0, .int 0, .ref m_primes, .ref m_often, .ref m_normal, .ref m_termM, .ref m_termP, .ref m_termV, .ref m_sumFrom, .ref m_sumMany, .int 0, .int 0, .int 0, .int 0, .ref m_part, .ref m_fair, .ref m_heap, .ref m_pickTet, .ref m_pickEdge, .ref m_base, .ref m_baseM, .ref m_baseP, .ref m_rowsOf, .int 0, .ref m_grid, .ref m_times, .ref m_boxes, .ref m_cameFrom, .ref m_cameBy, .ref m_steps, .ref m_sides, .int (nI (q_at (bx_mk u0 u1 u2) k).length), .int (nI d), .ref m_next, .ref m_cube, .ref m_ways])), (m_boxes, .inl (cI, 3600, (.inl gb))), (m_cameFrom, .inl (cI, 1200, (.inl gc))), (m_cameBy, .inl (cI, 1200, (.inl gd))), (m_next, .inl (cI, 3, (.inl gn))), (m_sides, .inl (cI, 183, (.inl (upd (upd (upd zs ((3 * (d - j)) + 0) x_49) ((3 * (d - j)) + 1) x_54) ((3 * (d - j)) + 2) x_59)))), (m_steps, .inl (cI, 60, (.inl zt)))] := hD
                                  refine lv_iinc (v := 3) (lv' := [(10, .int 3), (0, .ref m0), (8, .int (nI (d - j))), (9, .int (nI (h j)))]) hx hb dX11_plan_245 hl (k := 0) rfl (by decide) (by decide) rfl (fun ls hl => ?_)
                                  refine lv_goto (tgt := 215) hx hb dX11_plan_248 (by decide) ?_
                                  refine lv_iload hx hb dX11_plan_215 (lv_at hl 0 rfl) ?_
                                  refine lv_iconst (v := 3) hx hb dX11_plan_217 (by decide) ?_
                                  refine lv_icmp_ge (tgt := 251) hx hb dX11_plan_218 (by decide) (fun _ => ?_) (fun c => absurd (by decide) c)
                                  obtain ⟨x_60, ex_60⟩ : ∃ y : Int32, y = (nI (d - j)) + (-1) := ⟨_, rfl⟩
                                  refine lv_iinc (v := x_60) (lv' := [(8, .int x_60), (10, .int 3), (0, .ref m0), (9, .int (nI (h j)))]) hx hb dX11_plan_251 hl (k := 2) rfl (by rw [ex_60]; rfl) (by decide) rfl (fun ls hl => ?_)
                                  obtain rfl : x_60 = nI (d - (j + 1)) := ex_60.trans (by rw [show d - j = (d - (j + 1)) + 1 by omega]; exact pk_m1 _)
                                  have hl : lv_has ls 11 [(8, .int (nI (d - (j + 1)))), (10, .int 3), (0, .ref m0), (9, .int (nI (h j)))] := hl
                                  refine lv_iload hx hb dX11_plan_254 (lv_at hl 0 rfl) ?_
                                  refine lv_if_lt (tgt := 273) hx hb dX11_plan_256 (by decide) (fun c_61 => ?_) (fun c_61 => ?_)
                                  · have c_61 : (d - (j + 1)) < 0 := (nI_ltI (a := d - (j + 1)) (b := 0) (by omega) (by omega)).mp c_61
                                    exfalso
                                    omega
                                  · have c_61 : ¬ (d - (j + 1)) < 0 := fun q9 => c_61 ((nI_ltI (a := d - (j + 1)) (b := 0) (by omega) (by omega)).mpr q9)
                                    refine lv_aload_n hx hb dX11_plan_259 rfl (lv_at hl 2 rfl) ?_
                                    refine va_get (D := (dC, dI)) (ci := 11) (v := .ref m_steps) (C := RX11) (T := TX11) (N := 52) hx hb hts hiX11 hown hK hP 0 rfl rfl 45 (by decide) (hts (.fieldLink RX11 87 "ScissorsTableModel" "steps" "[I") (by decide +kernel)) (fun _ h9 => h9) rfl dX11_plan_260 ?_
                                    refine lv_iload hx hb dX11_plan_263 (lv_at hl 0 rfl) ?_
                                    refine lv_aload_n hx hb dX11_plan_265 rfl (lv_at hl 2 rfl) ?_
                                    refine va_get (D := (dC, dI)) (ci := 11) (v := .ref m_cameBy) (C := RX11) (T := TX11) (N := 52) hx hb hts hiX11 hown hK hP 0 rfl rfl 44 (by decide) (hts (.fieldLink RX11 84 "ScissorsTableModel" "cameBy" "[I") (by decide +kernel)) (fun _ h9 => h9) rfl dX11_plan_266 ?_
                                    refine lv_iload hx hb dX11_plan_269 (lv_at hl 3 rfl) ?_
                                    refine va_iald hx hb hK hP 3 1 rfl rfl (vp_in_nI (by omega) (by decide)) dX11_plan_271 ?_
                                    refine lv_topi (fun x_62 ex_62 => ?_)
                                    rw [nI_clamp (show h j < 2 ^ 31 by omega)] at ex_62
                                    refine va_iast hx hb hK hP hD hS 6 1 rfl rfl (vp_in_nI (by omega) (by decide)) dX11_plan_272 (fun H locs hP hD hS => ?_)
                                    rw [nI_clamp (show d - (j + 1) < 2 ^ 31 by omega)] at hP hD
                                    have hP : va_P (dC, dI) vwCl [(m0, .inr (11, [.int 0, .ref m_tape, .int 0, .int 0, .int 0, .ref m_read, .int 0, .int 0, .int 0, .ref m_tets, .int 0, .int 0, .int 0, .int 0, .int 0, .int 0, .int 0, .int 0, .ref m_primes, .ref m_often, .ref m_normal, .ref m_termM, .ref m_termP, .ref m_termV, .ref m_sumFrom, .ref m_sumMany, .int 0, .int 0, .int 0, .int 0, .ref m_part, .ref m_fair, .ref m_heap, .ref m_pickTet, .ref m_pickEdge, .ref m_base, .ref m_baseM, .ref m_baseP, .ref m_rowsOf, .int 0, .ref m_grid, .ref m_times, .ref m_boxes, .ref m_cameFrom, .ref m_cameBy, .ref m_steps, .ref m_sides, .int (nI (q_at (bx_mk u0 u1 u2) k).length), .int (nI d), .ref m_next, .ref m_cube, .ref m_ways])), (m_boxes, .inl (cI, 3600, (.inl gb))), (m_cameFrom, .inl (cI, 1200, (.inl gc))), (m_cameBy, .inl (cI, 1200, (.inl gd))), (m_next, .inl (cI, 3, (.inl gn))), (m_sides, .inl (cI, 183, (.inl (upd (upd (upd zs ((3 * (d - j)) + 0) x_49) ((3 * (d - j)) + 1) x_54) ((3 * (d - j)) + 2) x_59)))), (m_steps, .inl (cI, 60, (.inl (upd zt (d - (j + 1)) x_62))))] H := hP
                                    have hD : va_D A [(m0, .inr (11, [.int 0, .ref m_tape, .int 0, .int 0, .int 0, .ref m_read, .int 0, .int 0, .int 0, .ref m_tets, .int 0, .int 0, .int 0, .int 0, .int 0, .int 0, .int 0, .int 0, .ref m_primes, .ref m_often, .ref m_normal, .ref m_termM, .ref m_termP, .ref m_termV, .ref m_sumFrom, .ref m_sumMany, .int 0, .int 0, .int 0, .int 0, .ref m_part, .ref m_fair, .ref m_heap, .ref m_pickTet, .ref m_pickEdge, .ref m_base, .ref m_baseM, .ref m_baseP, .ref m_rowsOf, .int 0, .ref m_grid, .ref m_times, .ref m_boxes, .ref m_cameFrom, .ref m_cameBy, .ref m_steps, .ref m_sides, .int (nI (q_at (bx_mk u0 u1 u2) k).length), .int (nI d), .ref m_next, .ref m_cube, .ref m_ways])), (m_boxes, .inl (cI, 3600, (.inl gb))), (m_cameFrom, .inl (cI, 1200, (.inl gc))), (m_cameBy, .inl (cI, 1200, (.inl gd))), (m_next, .inl (cI, 3, (.inl gn))), (m_sides, .inl (cI, 183, (.inl (upd (upd (upd zs ((3 * (d - j)) + 0) x_49) ((3 * (d - j)) + 1) x_54) ((3 * (d - j)) + 2) x_59)))), (m_steps, .inl (cI, 60, (.inl (upd zt (d - (j + 1)) x_62))))] := hD
                                    refine lv_aload_n hx hb dX11_plan_273 rfl (lv_at hl 2 rfl) ?_
                                    refine va_get (D := (dC, dI)) (ci := 11) (v := .ref m_cameFrom) (C := RX11) (T := TX11) (N := 52) hx hb hts hiX11 hown hK hP 0 rfl rfl 43 (by decide) (hts (.fieldLink RX11 81 "ScissorsTableModel" "cameFrom" "[I") (by decide +kernel)) (fun _ h9 => h9) rfl dX11_plan_274 ?_
                                    refine lv_iload hx hb dX11_plan_277 (lv_at hl 3 rfl) ?_
                                    refine va_iald hx hb hK hP 2 1 rfl rfl (vp_in_nI (by omega) (by decide)) dX11_plan_279 ?_
                                    refine lv_topi (fun x_63 ex_63 => ?_)
                                    rw [nI_clamp (show h j < 2 ^ 31 by omega)] at ex_63
                                    obtain rfl : x_63 = nI (h (j + 1)) := ex_63.trans hc.1
                                    refine lv_istore (lv' := [(9, .int (nI (h (j + 1)))), (8, .int (nI (d - (j + 1)))), (10, .int 3), (0, .ref m0)]) hx hb dX11_plan_280 hl (by decide) rfl (fun ls hl => ?_)
                                    refine lv_goto (tgt := 206) hx hb dX11_plan_282 (by decide) ?_
                                    exact out3 _ _ _ (ih3 (j + 1) _ _ (by omega) (by omega) _ _ (hP.sub [0, 1, 2, 3, 4, 5, 6] rfl) (hD.sub [0, 1, 2, 3, 4, 5, 6] (by decide) rfl) hS ls (lv_sub hl [3, 1, 0] rfl))
                                · subst hii
                                  have hhd : h d ≤ 96 := by omega
                                  rw [Nat.sub_self] at hl
                                  have hl : lv_has ls 11 [(0, .ref m0), (8, .int 0), (9, .int (nI (h d)))] := hl
                                  refine lv_iload hx hb dX11_plan_206 (lv_at hl 2 rfl) ?_
                                  refine lv_iconst (v := (-1)) hx hb dX11_plan_208 (by decide) ?_
                                  refine lv_icmp_eq (tgt := 285) hx hb dX11_plan_209 (by decide) (fun c9 => absurd c9 (nk_nm1 (by omega))) (fun _ => ?_)
                                  refine lv_iconst (v := 0) hx hb dX11_plan_212 (by decide) ?_
                                  refine lv_istore (lv' := [(10, .int 0), (0, .ref m0), (8, .int 0), (9, .int (nI (h d)))]) hx hb dX11_plan_213 hl (by decide) rfl (fun ls hl => ?_)
                                  refine lv_iload hx hb dX11_plan_215 (lv_at hl 0 rfl) ?_
                                  refine lv_iconst (v := 3) hx hb dX11_plan_217 (by decide) ?_
                                  refine lv_icmp_ge (tgt := 251) hx hb dX11_plan_218 (by decide) (fun c => absurd c (by decide)) (fun _ => ?_)
                                  refine lv_aload_n hx hb dX11_plan_221 rfl (lv_at hl 1 rfl) ?_
                                  refine va_get (D := (dC, dI)) (ci := 11) (v := .ref m_sides) (C := RX11) (T := TX11) (N := 52) hx hb hts hiX11 hown hK hP 0 rfl rfl 46 (by decide) (hts (.fieldLink RX11 90 "ScissorsTableModel" "sides" "[I") (by decide +kernel)) (fun _ h9 => h9) rfl dX11_plan_222 ?_
                                  refine lv_iconst (v := 3) hx hb dX11_plan_225 (by decide) ?_
                                  refine lv_iload hx hb dX11_plan_226 (lv_at hl 2 rfl) ?_
                                  refine lv_imul hx hb dX11_plan_228 ?_
                                  refine lv_topi (fun x_64 ex_64 => ?_)
                                  obtain rfl : x_64 = 0 := ex_64.trans (by first | rfl | decide)
                                  refine lv_iload hx hb dX11_plan_229 (lv_at hl 0 rfl) ?_
                                  refine lv_iadd hx hb dX11_plan_231 ?_
                                  refine lv_topi (fun x_65 ex_65 => ?_)
                                  obtain rfl : x_65 = 0 := ex_65.trans (by first | rfl | decide)
                                  refine lv_aload_n hx hb dX11_plan_232 rfl (lv_at hl 1 rfl) ?_
                                  refine va_get (D := (dC, dI)) (ci := 11) (v := .ref m_boxes) (C := RX11) (T := TX11) (N := 52) hx hb hts hiX11 hown hK hP 0 rfl rfl 42 (by decide) (hts (.fieldLink RX11 78 "ScissorsTableModel" "boxes" "[I") (by decide +kernel)) (fun _ h9 => h9) rfl dX11_plan_233 ?_
                                  refine lv_iconst (v := 3) hx hb dX11_plan_236 (by decide) ?_
                                  refine lv_iload hx hb dX11_plan_237 (lv_at hl 3 rfl) ?_
                                  refine lv_imul hx hb dX11_plan_239 ?_
                                  refine lv_topi (fun x_66 ex_66 => ?_)
                                  obtain rfl : x_66 = nI (3 * (h d)) := ex_66.trans (pk_mul 3 (h d))
                                  refine lv_iload hx hb dX11_plan_240 (lv_at hl 0 rfl) ?_
                                  refine lv_iadd hx hb dX11_plan_242 ?_
                                  refine lv_topi (fun x_67 ex_67 => ?_)
                                  obtain rfl : x_67 = nI ((3 * (h d)) + 0) := ex_67.trans (nI_add (3 * (h d)) 0)
                                  refine va_iald hx hb hK hP 1 1 rfl rfl (vp_in_nI (by omega) (by decide)) dX11_plan_243 ?_
                                  refine lv_topi (fun x_68 ex_68 => ?_)
                                  rw [nI_clamp (show (3 * (h d)) + 0 < 2 ^ 31 by omega)] at ex_68
                                  refine va_iast hx hb hK hP hD hS 5 1 rfl rfl (by show ¬ (_ ∨ _); decide) dX11_plan_244 (fun H locs hP hD hS => ?_)
                                  rw [show (0 : Int32).toNatClampNeg = 0 from rfl] at hP hD
                                  have hP : va_P (dC, dI) vwCl [(m0, .inr (11, [.int 0, .ref m_tape, .int 0, .int 0, .int 0, .ref m_read, .int 0, .int 0, .int 0, .ref m_tets, .int 0, .int 0, .int 0, .int 0, .int 0, .int 0, .int 0, .int 0, .ref m_primes, .ref m_often, .ref m_normal, .ref m_termM, .ref m_termP, .ref m_termV, .ref m_sumFrom, .ref m_sumMany, .int 0, .int 0, .int 0, .int 0, .ref m_part, .ref m_fair, .ref m_heap, .ref m_pickTet, .ref m_pickEdge, .ref m_base, .ref m_baseM, .ref m_baseP, .ref m_rowsOf, .int 0, .ref m_grid, .ref m_times, .ref m_boxes, .ref m_cameFrom, .ref m_cameBy, .ref m_steps, .ref m_sides, .int (nI (q_at (bx_mk u0 u1 u2) k).length), .int (nI d), .ref m_next, .ref m_cube, .ref m_ways])), (m_boxes, .inl (cI, 3600, (.inl gb))), (m_cameFrom, .inl (cI, 1200, (.inl gc))), (m_cameBy, .inl (cI, 1200, (.inl gd))), (m_next, .inl (cI, 3, (.inl gn))), (m_sides, .inl (cI, 183, (.inl (upd zs 0 x_68)))), (m_steps, .inl (cI, 60, (.inl zt)))] H := hP
                                  have hD : va_D A [(m0, .inr (11, [.int 0, .ref m_tape, .int 0, .int 0, .int 0, .ref m_read, .int 0, .int 0, .int 0, .ref m_tets, .int 0, .int 0, .int 0, .int 0, .int 0, .int 0, .int 0, .int 0, .ref m_primes, .ref m_often, .ref m_normal, .ref m_termM, .ref m_termP, .ref m_termV, .ref m_sumFrom, .ref m_sumMany, .int 0, .int 0, .int 0, .int 0, .ref m_part, .ref m_fair, .ref m_heap, .ref m_pickTet, .ref m_pickEdge, .ref m_base, .ref m_baseM, .ref m_baseP, .ref m_rowsOf, .int 0, .ref m_grid, .ref m_times, .ref m_boxes, .ref m_cameFrom, .ref m_cameBy, .ref m_steps, .ref m_sides, .int (nI (q_at (bx_mk u0 u1 u2) k).length), .int (nI d), .ref m_next, .ref m_cube, .ref m_ways])), (m_boxes, .inl (cI, 3600, (.inl gb))), (m_cameFrom, .inl (cI, 1200, (.inl gc))), (m_cameBy, .inl (cI, 1200, (.inl gd))), (m_next, .inl (cI, 3, (.inl gn))), (m_sides, .inl (cI, 183, (.inl (upd zs 0 x_68)))), (m_steps, .inl (cI, 60, (.inl zt)))] := hD
                                  refine lv_iinc (v := 1) (lv' := [(10, .int 1), (0, .ref m0), (8, .int 0), (9, .int (nI (h d)))]) hx hb dX11_plan_245 hl (k := 0) rfl (by decide) (by decide) rfl (fun ls hl => ?_)
                                  refine lv_goto (tgt := 215) hx hb dX11_plan_248 (by decide) ?_
                                  refine lv_iload hx hb dX11_plan_215 (lv_at hl 0 rfl) ?_
                                  refine lv_iconst (v := 3) hx hb dX11_plan_217 (by decide) ?_
                                  refine lv_icmp_ge (tgt := 251) hx hb dX11_plan_218 (by decide) (fun c => absurd c (by decide)) (fun _ => ?_)
                                  refine lv_aload_n hx hb dX11_plan_221 rfl (lv_at hl 1 rfl) ?_
                                  refine va_get (D := (dC, dI)) (ci := 11) (v := .ref m_sides) (C := RX11) (T := TX11) (N := 52) hx hb hts hiX11 hown hK hP 0 rfl rfl 46 (by decide) (hts (.fieldLink RX11 90 "ScissorsTableModel" "sides" "[I") (by decide +kernel)) (fun _ h9 => h9) rfl dX11_plan_222 ?_
                                  refine lv_iconst (v := 3) hx hb dX11_plan_225 (by decide) ?_
                                  refine lv_iload hx hb dX11_plan_226 (lv_at hl 2 rfl) ?_
                                  refine lv_imul hx hb dX11_plan_228 ?_
                                  refine lv_topi (fun x_69 ex_69 => ?_)
                                  obtain rfl : x_69 = 0 := ex_69.trans (by first | rfl | decide)
                                  refine lv_iload hx hb dX11_plan_229 (lv_at hl 0 rfl) ?_
                                  refine lv_iadd hx hb dX11_plan_231 ?_
                                  refine lv_topi (fun x_70 ex_70 => ?_)
                                  obtain rfl : x_70 = 1 := ex_70.trans (by first | rfl | decide)
                                  refine lv_aload_n hx hb dX11_plan_232 rfl (lv_at hl 1 rfl) ?_
                                  refine va_get (D := (dC, dI)) (ci := 11) (v := .ref m_boxes) (C := RX11) (T := TX11) (N := 52) hx hb hts hiX11 hown hK hP 0 rfl rfl 42 (by decide) (hts (.fieldLink RX11 78 "ScissorsTableModel" "boxes" "[I") (by decide +kernel)) (fun _ h9 => h9) rfl dX11_plan_233 ?_
                                  refine lv_iconst (v := 3) hx hb dX11_plan_236 (by decide) ?_
                                  refine lv_iload hx hb dX11_plan_237 (lv_at hl 3 rfl) ?_
                                  refine lv_imul hx hb dX11_plan_239 ?_
                                  refine lv_topi (fun x_71 ex_71 => ?_)
                                  obtain rfl : x_71 = nI (3 * (h d)) := ex_71.trans (pk_mul 3 (h d))
                                  refine lv_iload hx hb dX11_plan_240 (lv_at hl 0 rfl) ?_
                                  refine lv_iadd hx hb dX11_plan_242 ?_
                                  refine lv_topi (fun x_72 ex_72 => ?_)
                                  obtain rfl : x_72 = nI ((3 * (h d)) + 1) := ex_72.trans (nI_add (3 * (h d)) 1)
                                  refine va_iald hx hb hK hP 1 1 rfl rfl (vp_in_nI (by omega) (by decide)) dX11_plan_243 ?_
                                  refine lv_topi (fun x_73 ex_73 => ?_)
                                  rw [nI_clamp (show (3 * (h d)) + 1 < 2 ^ 31 by omega)] at ex_73
                                  refine va_iast hx hb hK hP hD hS 5 1 rfl rfl (by show ¬ (_ ∨ _); decide) dX11_plan_244 (fun H locs hP hD hS => ?_)
                                  rw [show (1 : Int32).toNatClampNeg = 1 from rfl] at hP hD
                                  have hP : va_P (dC, dI) vwCl [(m0, .inr (11, [.int 0, .ref m_tape, .int 0, .int 0, .int 0, .ref m_read, .int 0, .int 0, .int 0, .ref m_tets, .int 0, .int 0, .int 0, .int 0, .int 0, .int 0, .int 0, .int 0, .ref m_primes, .ref m_often, .ref m_normal, .ref m_termM, .ref m_termP, .ref m_termV, .ref m_sumFrom, .ref m_sumMany, .int 0, .int 0, .int 0, .int 0, .ref m_part, .ref m_fair, .ref m_heap, .ref m_pickTet, .ref m_pickEdge, .ref m_base, .ref m_baseM, .ref m_baseP, .ref m_rowsOf, .int 0, .ref m_grid, .ref m_times, .ref m_boxes, .ref m_cameFrom, .ref m_cameBy, .ref m_steps, .ref m_sides, .int (nI (q_at (bx_mk u0 u1 u2) k).length), .int (nI d), .ref m_next, .ref m_cube, .ref m_ways])), (m_boxes, .inl (cI, 3600, (.inl gb))), (m_cameFrom, .inl (cI, 1200, (.inl gc))), (m_cameBy, .inl (cI, 1200, (.inl gd))), (m_next, .inl (cI, 3, (.inl gn))), (m_sides, .inl (cI, 183, (.inl (upd (upd zs 0 x_68) 1 x_73)))), (m_steps, .inl (cI, 60, (.inl zt)))] H := hP
                                  have hD : va_D A [(m0, .inr (11, [.int 0, .ref m_tape, .int 0, .int 0, .int 0, .ref m_read, .int 0, .int 0, .int 0, .ref m_tets, .int 0, .int 0, .int 0, .int 0, .int 0, .int 0, .int 0, .int 0, .ref m_primes, .ref m_often, .ref m_normal, .ref m_termM, .ref m_termP, .ref m_termV, .ref m_sumFrom, .ref m_sumMany, .int 0, .int 0, .int 0, .int 0, .ref m_part, .ref m_fair, .ref m_heap, .ref m_pickTet, .ref m_pickEdge, .ref m_base, .ref m_baseM, .ref m_baseP, .ref m_rowsOf, .int 0, .ref m_grid, .ref m_times, .ref m_boxes, .ref m_cameFrom, .ref m_cameBy, .ref m_steps, .ref m_sides, .int (nI (q_at (bx_mk u0 u1 u2) k).length), .int (nI d), .ref m_next, .ref m_cube, .ref m_ways])), (m_boxes, .inl (cI, 3600, (.inl gb))), (m_cameFrom, .inl (cI, 1200, (.inl gc))), (m_cameBy, .inl (cI, 1200, (.inl gd))), (m_next, .inl (cI, 3, (.inl gn))), (m_sides, .inl (cI, 183, (.inl (upd (upd zs 0 x_68) 1 x_73)))), (m_steps, .inl (cI, 60, (.inl zt)))] := hD
                                  refine lv_iinc (v := 2) (lv' := [(10, .int 2), (0, .ref m0), (8, .int 0), (9, .int (nI (h d)))]) hx hb dX11_plan_245 hl (k := 0) rfl (by decide) (by decide) rfl (fun ls hl => ?_)
                                  refine lv_goto (tgt := 215) hx hb dX11_plan_248 (by decide) ?_
                                  refine lv_iload hx hb dX11_plan_215 (lv_at hl 0 rfl) ?_
                                  refine lv_iconst (v := 3) hx hb dX11_plan_217 (by decide) ?_
                                  refine lv_icmp_ge (tgt := 251) hx hb dX11_plan_218 (by decide) (fun c => absurd c (by decide)) (fun _ => ?_)
                                  refine lv_aload_n hx hb dX11_plan_221 rfl (lv_at hl 1 rfl) ?_
                                  refine va_get (D := (dC, dI)) (ci := 11) (v := .ref m_sides) (C := RX11) (T := TX11) (N := 52) hx hb hts hiX11 hown hK hP 0 rfl rfl 46 (by decide) (hts (.fieldLink RX11 90 "ScissorsTableModel" "sides" "[I") (by decide +kernel)) (fun _ h9 => h9) rfl dX11_plan_222 ?_
                                  refine lv_iconst (v := 3) hx hb dX11_plan_225 (by decide) ?_
                                  refine lv_iload hx hb dX11_plan_226 (lv_at hl 2 rfl) ?_
                                  refine lv_imul hx hb dX11_plan_228 ?_
                                  refine lv_topi (fun x_74 ex_74 => ?_)
                                  obtain rfl : x_74 = 0 := ex_74.trans (by first | rfl | decide)
                                  refine lv_iload hx hb dX11_plan_229 (lv_at hl 0 rfl) ?_
                                  refine lv_iadd hx hb dX11_plan_231 ?_
                                  refine lv_topi (fun x_75 ex_75 => ?_)
                                  obtain rfl : x_75 = 2 := ex_75.trans (by first | rfl | decide)
                                  refine lv_aload_n hx hb dX11_plan_232 rfl (lv_at hl 1 rfl) ?_
                                  refine va_get (D := (dC, dI)) (ci := 11) (v := .ref m_boxes) (C := RX11) (T := TX11) (N := 52) hx hb hts hiX11 hown hK hP 0 rfl rfl 42 (by decide) (hts (.fieldLink RX11 78 "ScissorsTableModel" "boxes" "[I") (by decide +kernel)) (fun _ h9 => h9) rfl dX11_plan_233 ?_
                                  refine lv_iconst (v := 3) hx hb dX11_plan_236 (by decide) ?_
                                  refine lv_iload hx hb dX11_plan_237 (lv_at hl 3 rfl) ?_
                                  refine lv_imul hx hb dX11_plan_239 ?_
                                  refine lv_topi (fun x_76 ex_76 => ?_)
                                  obtain rfl : x_76 = nI (3 * (h d)) := ex_76.trans (pk_mul 3 (h d))
                                  refine lv_iload hx hb dX11_plan_240 (lv_at hl 0 rfl) ?_
                                  refine lv_iadd hx hb dX11_plan_242 ?_
                                  refine lv_topi (fun x_77 ex_77 => ?_)
                                  obtain rfl : x_77 = nI ((3 * (h d)) + 2) := ex_77.trans (nI_add (3 * (h d)) 2)
                                  refine va_iald hx hb hK hP 1 1 rfl rfl (vp_in_nI (by omega) (by decide)) dX11_plan_243 ?_
                                  refine lv_topi (fun x_78 ex_78 => ?_)
                                  rw [nI_clamp (show (3 * (h d)) + 2 < 2 ^ 31 by omega)] at ex_78
                                  refine va_iast hx hb hK hP hD hS 5 1 rfl rfl (by show ¬ (_ ∨ _); decide) dX11_plan_244 (fun H locs hP hD hS => ?_)
                                  rw [show (2 : Int32).toNatClampNeg = 2 from rfl] at hP hD
                                  have hP : va_P (dC, dI) vwCl [(m0, .inr (11, [.int 0, .ref m_tape, .int 0, .int 0, .int 0, .ref m_read, .int 0, .int 0, .int 0, .ref m_tets, .int 0, .int 0, .int 0, .int 0, .int 0, .int 0, .int 0, .int 0, .ref m_primes, .ref m_often, .ref m_normal, .ref m_termM, .ref m_termP, .ref m_termV, .ref m_sumFrom, .ref m_sumMany, .int 0, .int 0, .int 0, .int 0, .ref m_part, .ref m_fair, .ref m_heap, .ref m_pickTet, .ref m_pickEdge, .ref m_base, .ref m_baseM, .ref m_baseP, .ref m_rowsOf, .int 0, .ref m_grid, .ref m_times, .ref m_boxes, .ref m_cameFrom, .ref m_cameBy, .ref m_steps, .ref m_sides, .int (nI (q_at (bx_mk u0 u1 u2) k).length), .int (nI d), .ref m_next, .ref m_cube, .ref m_ways])), (m_boxes, .inl (cI, 3600, (.inl gb))), (m_cameFrom, .inl (cI, 1200, (.inl gc))), (m_cameBy, .inl (cI, 1200, (.inl gd))), (m_next, .inl (cI, 3, (.inl gn))), (m_sides, .inl (cI, 183, (.inl (upd (upd (upd zs 0 x_68) 1 x_73) 2 x_78)))), (m_steps, .inl (cI, 60, (.inl zt)))] H := hP
                                  have hD : va_D A [(m0, .inr (11, [.int 0, .ref m_tape, .int 0, .int 0, .int 0, .ref m_read, .int 0, .int 0, .int 0, .ref m_tets, .int 0, .int 0, .int 0, .int 0, .int 0, .int 0, .int 0, .int 0, .ref m_primes, .ref m_often, .ref m_normal, .ref m_termM, .ref m_termP, .ref m_termV, .ref m_sumFrom, .ref m_sumMany, .int 0, .int 0, .int 0, .int 0, .ref m_part, .ref m_fair, .ref m_heap, .ref m_pickTet, .ref m_pickEdge, .ref m_base, .ref m_baseM, .ref m_baseP, .ref m_rowsOf, .int 0, .ref m_grid, .ref m_times, .ref m_boxes, .ref m_cameFrom, .ref m_cameBy, .ref m_steps, .ref m_sides, .int (nI (q_at (bx_mk u0 u1 u2) k).length), .int (nI d), .ref m_next, .ref m_cube, .ref m_ways])), (m_boxes, .inl (cI, 3600, (.inl gb))), (m_cameFrom, .inl (cI, 1200, (.inl gc))), (m_cameBy, .inl (cI, 1200, (.inl gd))), (m_next, .inl (cI, 3, (.inl gn))), (m_sides, .inl (cI, 183, (.inl (upd (upd (upd zs 0 x_68) 1 x_73) 2 x_78)))), (m_steps, .inl (cI, 60, (.inl zt)))] := hD
                                  refine lv_iinc (v := 3) (lv' := [(10, .int 3), (0, .ref m0), (8, .int 0), (9, .int (nI (h d)))]) hx hb dX11_plan_245 hl (k := 0) rfl (by decide) (by decide) rfl (fun ls hl => ?_)
                                  refine lv_goto (tgt := 215) hx hb dX11_plan_248 (by decide) ?_
                                  refine lv_iload hx hb dX11_plan_215 (lv_at hl 0 rfl) ?_
                                  refine lv_iconst (v := 3) hx hb dX11_plan_217 (by decide) ?_
                                  refine lv_icmp_ge (tgt := 251) hx hb dX11_plan_218 (by decide) (fun _ => ?_) (fun c => absurd (by decide) c)
                                  refine lv_iinc (v := (-1)) (lv' := [(8, .int (-1)), (10, .int 3), (0, .ref m0), (9, .int (nI (h d)))]) hx hb dX11_plan_251 hl (k := 2) rfl (by decide) (by decide) rfl (fun ls hl => ?_)
                                  refine lv_iload hx hb dX11_plan_254 (lv_at hl 0 rfl) ?_
                                  refine lv_if_lt (tgt := 273) hx hb dX11_plan_256 (by decide) (fun _ => ?_) (fun c => absurd (by decide) c)
                                  refine lv_aload_n hx hb dX11_plan_273 rfl (lv_at hl 2 rfl) ?_
                                  refine va_get (D := (dC, dI)) (ci := 11) (v := .ref m_cameFrom) (C := RX11) (T := TX11) (N := 52) hx hb hts hiX11 hown hK hP 0 rfl rfl 43 (by decide) (hts (.fieldLink RX11 81 "ScissorsTableModel" "cameFrom" "[I") (by decide +kernel)) (fun _ h9 => h9) rfl dX11_plan_274 ?_
                                  refine lv_iload hx hb dX11_plan_277 (lv_at hl 3 rfl) ?_
                                  refine va_iald hx hb hK hP 2 1 rfl rfl (vp_in_nI (by omega) (by decide)) dX11_plan_279 ?_
                                  refine lv_topi (fun x_79 ex_79 => ?_)
                                  rw [nI_clamp (show h d < 2 ^ 31 by omega)] at ex_79
                                  obtain rfl : x_79 = -1 := ex_79.trans hcl
                                  refine lv_istore (lv' := [(9, .int (-1)), (8, .int (-1)), (10, .int 3), (0, .ref m0)]) hx hb dX11_plan_280 hl (by decide) rfl (fun ls hl => ?_)
                                  refine lv_goto (tgt := 206) hx hb dX11_plan_282 (by decide) ?_
                                  refine lv_iload hx hb dX11_plan_206 (lv_at hl 0 rfl) ?_
                                  refine lv_iconst (v := (-1)) hx hb dX11_plan_208 (by decide) ?_
                                  refine lv_icmp_eq (tgt := 285) hx hb dX11_plan_209 (by decide) (fun _ => ?_) (fun c => absurd (by decide) c)
                                  refine lv_aload_n hx hb dX11_plan_285 rfl (lv_at hl 3 rfl) ?_
                                  refine va_get (D := (dC, dI)) (ci := 11) (v := .int (nI d)) (C := RX11) (T := TX11) (N := 52) hx hb hts hiX11 hown hK hP 0 rfl rfl 48 (by decide) (hts (.fieldLink RX11 93 "ScissorsTableModel" "stepMany" "I") (by decide +kernel)) (fun _ h9 => h9) rfl dX11_plan_286 ?_
                                  refine W.widen (k := 0) (n := 0) (Nat.le_of_ble_eq_true rfl) (Nat.le_of_ble_eq_true rfl) ?_
                                  exact W.iret (v := (nI d)) hx hb hr (fun t ht hW => ⟨⟨(nI d), (), rfl, (pl_good hu hv (((if_neg (Nat.not_lt.mpr c_7)).trans (if_pos c_12)).trans hra).symm), trivial⟩, hS.F ht⟩) hS.2.2 dX11_plan_289
                            have hl : lv_has ls 11 [(9, .int (nI (h 0))), (8, .int (nI (d - 0))), (0, .ref m0)] := by
                              rw [a0]
                              exact lv_sub hl [0, 1, 2] rfl
                            exact loop3 (d + 1) 0 _ _ (by omega) (by omega) _ _ (hP.sub [0, 1, 2, 3, 4, 5, 6] rfl) (hD.sub [0, 1, 2, 3, 4, 5, 6] (by decide) rfl) hS ls (lv_sub hl [2, 1, 0] rfl)
                      have hl : lv_has ls 11 [(8, .int (nI (h 0))), (7, .int (nI k)), (0, .ref m0)] := by
                        rw [a0]
                        exact lv_sub hl [0, 5, 1] rfl
                      exact loop2 (d + 1) 0 (by omega) (by omega) _ _ (hP.sub [0, 1, 2, 3, 4, 5, 6] rfl) (hD.sub [0, 1, 2, 3, 4, 5, 6] (by decide) rfl) hS ls (lv_sub hl [2, 1, 0] rfl)
                    · have c_40 : ¬ t2 = v2 := fun q9 => c_40 ((nI_eq (a := t2) (b := v2) (by omega) (by omega)).mpr q9)
                      refine lv_aload_n hx hb dX11_plan_131 rfl (lv_at hl 0 rfl) ?_
                      refine lv_iload hx hb dX11_plan_132 (lv_at hl 4 rfl) ?_
                      have hne : ¬ bx_mk t0 t1 t2 / 32 = bx_mk v0 v1 v2 / 32 := fun q9 => c_40 (bx_ne hbb hgi (by omega) q9).2.2
                      have hQe : q_sees k (d + 1) (nb_of (bx_mk t0 t1 t2)) (q_at (bx_mk u0 u1 u2) k) = q_at (bx_mk u0 u1 u2) (k + 1) := (q_exp_some hkk).symm
                      have hkl := q_lt hkk
                      have hl1 := q_len hfin.1 (show k + 1 ≤ 97 by omega)
                      have hPc := hP.sub (ws' := [(m0, .inr (11, [.int 0, .ref m_tape, .int 0, .int 0, .int 0, .ref m_read, .int 0, .int 0, .int 0, .ref m_tets, .int 0, .int 0, .int 0, .int 0, .int 0, .int 0, .int 0, .int 0, .ref m_primes, .ref m_often, .ref m_normal, .ref m_termM, .ref m_termP, .ref m_termV, .ref m_sumFrom, .ref m_sumMany, .int 0, .int 0, .int 0, .int 0, .ref m_part, .ref m_fair, .ref m_heap, .ref m_pickTet, .ref m_pickEdge, .ref m_base, .ref m_baseM, .ref m_baseP, .ref m_rowsOf, .int 0, .ref m_grid, .ref m_times, .ref m_boxes, .ref m_cameFrom, .ref m_cameBy, .ref m_steps, .ref m_sides, .int (nI (q_at (bx_mk u0 u1 u2) k).length), .int (-1), .ref m_next, .ref m_cube, .ref m_ways])), (m_boxes, .inl (cI, 3600, (.inl gb))), (m_cameFrom, .inl (cI, 1200, (.inl gc))), (m_cameBy, .inl (cI, 1200, (.inl gd))), (m_next, .inl (cI, 3, (.inl gn)))]) [0, 1, 2, 3, 4] rfl
                      have hDc := hD.sub (ws' := [(m0, .inr (11, [.int 0, .ref m_tape, .int 0, .int 0, .int 0, .ref m_read, .int 0, .int 0, .int 0, .ref m_tets, .int 0, .int 0, .int 0, .int 0, .int 0, .int 0, .int 0, .int 0, .ref m_primes, .ref m_often, .ref m_normal, .ref m_termM, .ref m_termP, .ref m_termV, .ref m_sumFrom, .ref m_sumMany, .int 0, .int 0, .int 0, .int 0, .ref m_part, .ref m_fair, .ref m_heap, .ref m_pickTet, .ref m_pickEdge, .ref m_base, .ref m_baseM, .ref m_baseP, .ref m_rowsOf, .int 0, .ref m_grid, .ref m_times, .ref m_boxes, .ref m_cameFrom, .ref m_cameBy, .ref m_steps, .ref m_sides, .int (nI (q_at (bx_mk u0 u1 u2) k).length), .int (-1), .ref m_next, .ref m_cube, .ref m_ways])), (m_boxes, .inl (cI, 3600, (.inl gb))), (m_cameFrom, .inl (cI, 1200, (.inl gc))), (m_cameBy, .inl (cI, 1200, (.inl gd))), (m_next, .inl (cI, 3, (.inl gn)))]) [0, 1, 2, 3, 4] (by decide) rfl
                      have hFc := va_free (wc := [(m0, .inr (11, [.int 0, .ref m_tape, .int 0, .int 0, .int 0, .ref m_read, .int 0, .int 0, .int 0, .ref m_tets, .int 0, .int 0, .int 0, .int 0, .int 0, .int 0, .int 0, .int 0, .ref m_primes, .ref m_often, .ref m_normal, .ref m_termM, .ref m_termP, .ref m_termV, .ref m_sumFrom, .ref m_sumMany, .int 0, .int 0, .int 0, .int 0, .ref m_part, .ref m_fair, .ref m_heap, .ref m_pickTet, .ref m_pickEdge, .ref m_base, .ref m_baseM, .ref m_baseP, .ref m_rowsOf, .int 0, .ref m_grid, .ref m_times, .ref m_boxes, .ref m_cameFrom, .ref m_cameBy, .ref m_steps, .ref m_sides, .int (nI (q_at (bx_mk u0 u1 u2) k).length), .int (-1), .ref m_next, .ref m_cube, .ref m_ways])), (m_boxes, .inl (cI, 3600, (.inl gb))), (m_cameFrom, .inl (cI, 1200, (.inl gc))), (m_cameBy, .inl (cI, 1200, (.inl gd))), (m_next, .inl (cI, 3, (.inl gn)))]) hD hS hA [0, 1, 2, 3, 4] rfl
                      refine va_callv (va_runV (As := [.int (nI k)]) (rest := []) ⟨hx, hb, hml, hown, hts⟩ (c_X11_goesFrom l dC dI cB cI cJ H.size m0 m_tape m_read m_tets m_primes m_often m_normal m_termM m_termP m_termV m_sumFrom m_sumMany m_part m_fair m_heap m_pickTet m_pickEdge m_base m_baseM m_baseP m_rowsOf m_grid m_times m_boxes m_cameFrom m_cameBy m_steps m_sides m_next m_cube m_ways (q_at (bx_mk u0 u1 u2) k) (q_at (bx_mk u0 u1 u2) (k + 1)) gb gc gd gn (u0 * u1 * u2) t0 t1 t2 k pk d (⟨ht0, ht1, ht2⟩) htV hkk hI hR hQe hl1) (cwV 1 hts gX11_plan_X11_goesFrom rfl rfl rfl (by decide +kernel) ⟨Nat.le_of_ble_eq_true rfl, Nat.le_of_ble_eq_true rfl⟩) ⟨fun a U g mk q => by obtain ⟨q0, q1, qP, qK, qD⟩ := q; exact ⟨q0, q1, qP, va_K.moved (u := U) (U := U.calling g mk a) (Vm.Alike.refl U.vm) qK, qD⟩, va_recv hK hP (ci := 11) (q0 := 0) rfl rfl, fun U hU hW => ⟨rfl, by rw [hU], by rw [hU]; exact hPc, va_K.moved hW.alike hK, hDc.weaken (fun _ _ _ _ => trivial)⟩⟩ rfl rfl hl.1 rfl (lv_room (Nat.le_of_ble_eq_true rfl)) dX11_plan_134 ⟨Nat.le_of_ble_eq_true rfl, Nat.le_of_ble_eq_true rfl⟩) hS (fun q _ h => hFc q h) hFc (fun u t H1 locs ht hvm hw hB hz1 hk1 hS => ?_)
                      obtain ⟨g_80, g_81, g_82, g_83, h_84, hP1, hK1, hD1⟩ := hB
                      rw [ht] at hP1
                      obtain ⟨hP, hD⟩ := va_join (wr := [(m_sides, .inl (cI, 183, (.inl gs))), (m_steps, .inl (cI, 60, (.inl gt)))]) (w1 := [(m0, .inr (11, [.int 0, .ref m_tape, .int 0, .int 0, .int 0, .ref m_read, .int 0, .int 0, .int 0, .ref m_tets, .int 0, .int 0, .int 0, .int 0, .int 0, .int 0, .int 0, .int 0, .ref m_primes, .ref m_often, .ref m_normal, .ref m_termM, .ref m_termP, .ref m_termV, .ref m_sumFrom, .ref m_sumMany, .int 0, .int 0, .int 0, .int 0, .ref m_part, .ref m_fair, .ref m_heap, .ref m_pickTet, .ref m_pickEdge, .ref m_base, .ref m_baseM, .ref m_baseP, .ref m_rowsOf, .int 0, .ref m_grid, .ref m_times, .ref m_boxes, .ref m_cameFrom, .ref m_cameBy, .ref m_steps, .ref m_sides, .int (nI (q_at (bx_mk u0 u1 u2) (k + 1)).length), .int (-1), .ref m_next, .ref m_cube, .ref m_ways])), (m_boxes, .inl (cI, 3600, (.inl g_80))), (m_cameFrom, .inl (cI, 1200, (.inl g_81))), (m_cameBy, .inl (cI, 1200, (.inl g_82))), (m_next, .inl (cI, 3, (.inl g_83)))]) hP hD [0, 1, 2, 3, 4] [5, 6] rfl rfl (by decide) (by decide) hk1 hFc hP1 hD1
                      generalize H1 = H at hP hS ⊢
                      have hP : va_P (dC, dI) vwCl [(m_sides, .inl (cI, 183, (.inl gs))), (m_steps, .inl (cI, 60, (.inl gt))), (m0, .inr (11, [.int 0, .ref m_tape, .int 0, .int 0, .int 0, .ref m_read, .int 0, .int 0, .int 0, .ref m_tets, .int 0, .int 0, .int 0, .int 0, .int 0, .int 0, .int 0, .int 0, .ref m_primes, .ref m_often, .ref m_normal, .ref m_termM, .ref m_termP, .ref m_termV, .ref m_sumFrom, .ref m_sumMany, .int 0, .int 0, .int 0, .int 0, .ref m_part, .ref m_fair, .ref m_heap, .ref m_pickTet, .ref m_pickEdge, .ref m_base, .ref m_baseM, .ref m_baseP, .ref m_rowsOf, .int 0, .ref m_grid, .ref m_times, .ref m_boxes, .ref m_cameFrom, .ref m_cameBy, .ref m_steps, .ref m_sides, .int (nI (q_at (bx_mk u0 u1 u2) (k + 1)).length), .int (-1), .ref m_next, .ref m_cube, .ref m_ways])), (m_boxes, .inl (cI, 3600, (.inl g_80))), (m_cameFrom, .inl (cI, 1200, (.inl g_81))), (m_cameBy, .inl (cI, 1200, (.inl g_82))), (m_next, .inl (cI, 3, (.inl g_83)))] H := hP
                      have hD : va_D A [(m_sides, .inl (cI, 183, (.inl gs))), (m_steps, .inl (cI, 60, (.inl gt))), (m0, .inr (11, [.int 0, .ref m_tape, .int 0, .int 0, .int 0, .ref m_read, .int 0, .int 0, .int 0, .ref m_tets, .int 0, .int 0, .int 0, .int 0, .int 0, .int 0, .int 0, .int 0, .ref m_primes, .ref m_often, .ref m_normal, .ref m_termM, .ref m_termP, .ref m_termV, .ref m_sumFrom, .ref m_sumMany, .int 0, .int 0, .int 0, .int 0, .ref m_part, .ref m_fair, .ref m_heap, .ref m_pickTet, .ref m_pickEdge, .ref m_base, .ref m_baseM, .ref m_baseP, .ref m_rowsOf, .int 0, .ref m_grid, .ref m_times, .ref m_boxes, .ref m_cameFrom, .ref m_cameBy, .ref m_steps, .ref m_sides, .int (nI (q_at (bx_mk u0 u1 u2) (k + 1)).length), .int (-1), .ref m_next, .ref m_cube, .ref m_ways])), (m_boxes, .inl (cI, 3600, (.inl g_80))), (m_cameFrom, .inl (cI, 1200, (.inl g_81))), (m_cameBy, .inl (cI, 1200, (.inl g_82))), (m_next, .inl (cI, 3, (.inl g_83)))] := hD
                      have hpre := q_at_pre (bx_mk u0 u1 u2) k 1
                      have hk1 : k + 1 ≤ (q_at (bx_mk u0 u1 u2) (k + 1)).length := by
                        have h9 := q_pre_len hpre
                        rcases (show k + 1 ≤ (q_at (bx_mk u0 u1 u2) k).length by omega) with h8
                        exact Nat.le_trans h8 h9
                      have hno1 : ∀ (t : Nat) (e : qE), t < k + 1 → (q_at (bx_mk u0 u1 u2) (k + 1))[t]? = some e → ¬ e.1 / 32 = bx_mk v0 v1 v2 / 32 := fun t9 e9 h9 g9 => by
                        obtain ⟨e8, h8⟩ := q_some (show t9 < (q_at (bx_mk u0 u1 u2) k).length by omega)
                        have h7 := q_pre_at hpre h8
                        rw [g9] at h7
                        cases h7
                        rcases (show t9 < k ∨ t9 = k by omega) with z9 | z9
                        · exact hno t9 e9 z9 h8
                        · subst z9
                          rw [hkk] at h8
                          cases h8
                          exact hne
                      obtain ⟨x_85, ex_85⟩ : ∃ y : Int32, y = (nI k) + 1 := ⟨_, rfl⟩
                      refine lv_iinc (v := x_85) (lv' := [(7, .int x_85), (0, .ref m0), (4, .int (nI v0)), (5, .int (nI v1)), (6, .int (nI v2))]) hx hb dX11_plan_137 hl (k := 4) rfl (by rw [ex_85]; rfl) (by decide) rfl (fun ls hl => ?_)
                      obtain rfl : x_85 = nI (k + 1) := ex_85.trans (nI_1 k)
                      have hl : lv_has ls 11 [(7, .int (nI (k + 1))), (0, .ref m0), (4, .int (nI v0)), (5, .int (nI v1)), (6, .int (nI v2))] := hl
                      refine lv_goto (tgt := 76) hx hb dX11_plan_140 (by decide) ?_
                      exact out _ _ _ (ih (k + 1) _ _ _ _ _ _ (by omega) (by omega) hk1 h_84 hno1 _ _ (hP.sub [2, 3, 4, 5, 6, 0, 1] rfl) (hD.sub [2, 3, 4, 5, 6, 0, 1] (by decide) rfl) hS ls (lv_sub hl [1, 2, 3, 4, 0] rfl))
          exact loop 98 0 _ _ _ _ _ _ rfl (by omega) (by omega) h_16 (fun t e h _ => absurd h (by omega)) _ _ (hP.sub [3, 4, 5, 6, 0, 1, 2] rfl) (hD.sub [3, 4, 5, 6, 0, 1, 2] (by decide) rfl) hS ls (lv_sub hl [1, 5, 6, 7, 0] rfl)
        · have c_12 : ¬ ((u0 * u1) * u2) = ((v0 * v1) * v2) := fun q9 => c_12 ((nI_eq (a := (u0 * u1) * u2) (b := (v0 * v1) * v2) (by omega) (by omega)).mpr q9)
          refine lv_bipush (v := (-3)) hx hb dX11_plan_56 (by decide) ?_
          refine W.widen (k := 0) (n := 0) (Nat.le_of_ble_eq_true rfl) (Nat.le_of_ble_eq_true rfl) ?_
          exact W.iret (v := (-3)) hx hb hr (fun t ht hW => ⟨⟨(-3), (), rfl, (pl_good hu hv ((if_neg (Nat.not_lt.mpr c_7)).trans (if_neg c_12)).symm), trivial⟩, hS.F ht⟩) hS.2.2 dX11_plan_58
      · have c_7 : ¬ ((u0 * u1) * u2) ≤ 1728 := fun q9 => c_7 ((nI_leI (a := (u0 * u1) * u2) (b := 1728) (by omega) (by omega)).mpr q9)
        refine lv_bipush (v := (-2)) hx hb dX11_plan_37 (by decide) ?_
        refine W.widen (k := 0) (n := 0) (Nat.le_of_ble_eq_true rfl) (Nat.le_of_ble_eq_true rfl) ?_
        exact W.iret (v := (-2)) hx hb hr (fun t ht hW => ⟨⟨(-2), (), rfl, (pl_good hu hv (if_pos (Nat.not_le.mp c_7)).symm), trivial⟩, hS.F ht⟩) hS.2.2 dX11_plan_39
