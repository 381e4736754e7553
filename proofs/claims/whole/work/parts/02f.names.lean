theorem dX11_cut_150 : decode cX11_cut 150 = .ok (.invokevirtual 366, 3) := by decide +kernel
theorem dX11_cut_153 : decode cX11_cut 153 = .ok (.aload_n 0, 1) := by decide +kernel
theorem dX11_cut_154 : decode cX11_cut 154 = .ok (.iload 8, 2) := by decide +kernel
theorem dX11_cut_156 : decode cX11_cut 156 = .ok (.iload 7, 2) := by decide +kernel
theorem dX11_cut_158 : decode cX11_cut 158 = .ok (.iload_n 2, 1) := by decide +kernel
theorem dX11_cut_159 : decode cX11_cut 159 = .ok (.iload_n 3, 1) := by decide +kernel
theorem dX11_cut_160 : decode cX11_cut 160 = .ok (.iload 4, 2) := by decide +kernel
theorem dX11_cut_162 : decode cX11_cut 162 = .ok (.invokevirtual 220, 3) := by decide +kernel
theorem dX11_cut_165 : decode cX11_cut 165 = .ok (.iload 6, 2) := by decide +kernel
theorem dX11_cut_167 : decode cX11_cut 167 = .ok (.ifCond .ne 13, 3) := by decide +kernel
theorem dX11_cut_170 : decode cX11_cut 170 = .ok (.aload_n 0, 1) := by decide +kernel
theorem dX11_cut_171 : decode cX11_cut 171 = .ok (.dup, 1) := by decide +kernel
theorem dX11_cut_172 : decode cX11_cut 172 = .ok (.getfield 191, 3) := by decide +kernel
theorem dX11_cut_175 : decode cX11_cut 175 = .ok (.iconst 1, 1) := by decide +kernel
theorem dX11_cut_176 : decode cX11_cut 176 = .ok (.iadd, 1) := by decide +kernel
theorem dX11_cut_177 : decode cX11_cut 177 = .ok (.putfield 191, 3) := by decide +kernel
theorem dX11_cut_180 : decode cX11_cut 180 = .ok (.iconst 0, 1) := by decide +kernel
theorem dX11_cut_181 : decode cX11_cut 181 = .ok (.istore 6, 2) := by decide +kernel
theorem dX11_cut_183 : decode cX11_cut 183 = .ok (.iinc 7 1, 3) := by decide +kernel
theorem dX11_cut_186 : decode cX11_cut 186 = .ok (.goto (-75), 3) := by decide +kernel
theorem dX11_cut_189 : decode cX11_cut 189 = .ok (.aload_n 0, 1) := by decide +kernel
theorem dX11_cut_190 : decode cX11_cut 190 = .ok (.iconst 0, 1) := by decide +kernel
theorem dX11_cut_191 : decode cX11_cut 191 = .ok (.putfield 194, 3) := by decide +kernel
theorem dX11_cut_194 : decode cX11_cut 194 = .ok (.iload 5, 2) := by decide +kernel
theorem dX11_cut_196 : decode cX11_cut 196 = .ok (.ireturn, 1) := by decide +kernel
set_option maxRecDepth 20000 in
theorem ggX11_join_X11_isTet : GoodIn wsX11_join wsX11_isTet := goodIn_r _ [7, 8, 41, 42, 43, 44, 45, 46, 47, 48, 49, 50, 51, 52, 53, 54, 55, 56, 57, 58, 59, 60, 61, 62, 63, 64, 65, 66, 67, 68, 69, 70, 71, 72, 73, 74, 75, 76, 77, 78, 79, 80, 81, 82, 83, 84, 85, 86, 87, 88, 89, 90, 91, 92] (by decide +kernel) (by decide +kernel)
set_option maxRecDepth 20000 in
theorem gX11_join_X11_isTet : GoodIn wsX11_join (wsV RX11 295 RX11 yX11_isTet wsX11_isTet) := goodIn_app (goodIn_of _ (by decide +kernel)) ggX11_join_X11_isTet
set_option maxRecDepth 20000 in
theorem ggX11_join_X11_ownCorner : GoodIn wsX11_join wsX11_ownCorner := goodIn_r _ [12, 13, 14, 15, 6, 16, 17, 18, 19, 20, 2, 21, 22, 23, 41, 42, 43, 44, 45, 46, 47, 48, 49, 50, 51, 52, 53, 54, 55, 56, 57, 58, 59, 60, 61, 62, 63, 64, 65, 66, 67, 68, 69, 70, 71, 72, 73, 74, 75, 76, 77, 78, 79, 80, 81, 82, 83, 84, 85, 86, 87, 88, 89, 90, 91, 92] (by decide +kernel) (by decide +kernel)
set_option maxRecDepth 20000 in
theorem gX11_join_X11_ownCorner : GoodIn wsX11_join (wsV RX11 389 RX11 yX11_ownCorner wsX11_ownCorner) := goodIn_app (goodIn_of _ (by decide +kernel)) ggX11_join_X11_ownCorner
set_option maxRecDepth 20000 in
theorem ggX11_join_X11_isBetween : GoodIn wsX11_join wsX11_isBetween := goodIn_r _ [27, 17, 18, 19, 6, 20, 2, 21, 22, 23, 41, 42, 43, 44, 45, 46, 47, 48, 49, 50, 51, 52, 53, 54, 55, 56, 57, 58, 59, 60, 61, 62, 63, 64, 65, 66, 67, 68, 69, 70, 71, 72, 73, 74, 75, 76, 77, 78, 79, 80, 81, 82, 83, 84, 85, 86, 87, 88, 89, 90, 91, 92] (by decide +kernel) (by decide +kernel)
set_option maxRecDepth 20000 in
theorem gX11_join_X11_isBetween : GoodIn wsX11_join (wsV RX11 392 RX11 yX11_isBetween wsX11_isBetween) := goodIn_app (goodIn_of _ (by decide +kernel)) ggX11_join_X11_isBetween
set_option maxRecDepth 20000 in
theorem ggX11_join_X11_of : GoodIn wsX11_join wsX11_of := goodIn_r _ [20, 2, 21, 22, 6, 23, 41, 42, 43, 44, 45, 46, 47, 48, 49, 50, 51, 52, 53, 54, 55, 56, 57, 58, 59, 60, 61, 62, 63, 64, 65, 66, 67, 68, 69, 70, 71, 72, 73, 74, 75, 76, 77, 78, 79, 80, 81, 82, 83, 84, 85, 86, 87, 88, 89, 90, 91, 92] (by decide +kernel) (by decide +kernel)
set_option maxRecDepth 20000 in
theorem gX11_join_X11_of : GoodIn wsX11_join (wsV RX11 201 RX11 yX11_of wsX11_of) := goodIn_app (goodIn_of _ (by decide +kernel)) ggX11_join_X11_of
set_option maxRecDepth 20000 in
theorem ggX11_join_X11_lays : GoodIn wsX11_join wsX11_lays := goodIn_r _ [31, 2, 21, 22, 6, 23, 41, 42, 43, 44, 45, 46, 47, 48, 49, 50, 51, 52, 53, 54, 55, 56, 57, 58, 59, 60, 61, 62, 63, 64, 65, 66, 67, 68, 69, 70, 71, 72, 73, 74, 75, 76, 77, 78, 79, 80, 81, 82, 83, 84, 85, 86, 87, 88, 89, 90, 91, 92] (by decide +kernel) (by decide +kernel)
set_option maxRecDepth 20000 in
theorem gX11_join_X11_lays : GoodIn wsX11_join (wsV RX11 220 RX11 yX11_lays wsX11_lays) := goodIn_app (goodIn_of _ (by decide +kernel)) ggX11_join_X11_lays
set_option maxRecDepth 20000 in
theorem ggX11_join_X11_goes : GoodIn wsX11_join wsX11_goes := goodIn_r _ [35, 8, 36, 37, 38, 39, 6, 40, 2, 41, 42, 43, 44, 45, 46, 47, 48, 49, 50, 51, 52, 53, 54, 55, 56, 57, 58, 59, 60, 61, 62, 63, 64, 65, 66, 67, 68, 69, 70, 71, 72, 73, 74, 75, 76, 77, 78, 79, 80, 81, 82, 83, 84, 85, 86, 87, 88, 89, 90, 91, 92] (by decide +kernel) (by decide +kernel)
set_option maxRecDepth 20000 in
theorem gX11_join_X11_goes : GoodIn wsX11_join (wsV RX11 396 RX11 yX11_goes wsX11_goes) := goodIn_app (goodIn_of _ (by decide +kernel)) ggX11_join_X11_goes
theorem dX11_join_0 : decode cX11_join 0 = .ok (.aload_n 0, 1) := by decide +kernel
theorem dX11_join_1 : decode cX11_join 1 = .ok (.iconst 0, 1) := by decide +kernel
theorem dX11_join_2 : decode cX11_join 2 = .ok (.putfield 106, 3) := by decide +kernel
theorem dX11_join_5 : decode cX11_join 5 = .ok (.aload_n 0, 1) := by decide +kernel
theorem dX11_join_6 : decode cX11_join 6 = .ok (.iload_n 1, 1) := by decide +kernel
theorem dX11_join_7 : decode cX11_join 7 = .ok (.invokevirtual 295, 3) := by decide +kernel
theorem dX11_join_10 : decode cX11_join 10 = .ok (.ifCond .eq 11, 3) := by decide +kernel
theorem dX11_join_13 : decode cX11_join 13 = .ok (.aload_n 0, 1) := by decide +kernel
theorem dX11_join_14 : decode cX11_join 14 = .ok (.iload_n 2, 1) := by decide +kernel
theorem dX11_join_15 : decode cX11_join 15 = .ok (.invokevirtual 295, 3) := by decide +kernel
theorem dX11_join_18 : decode cX11_join 18 = .ok (.ifCond .ne 5, 3) := by decide +kernel
theorem dX11_join_21 : decode cX11_join 21 = .ok (.iconst (-1), 1) := by decide +kernel
theorem dX11_join_22 : decode cX11_join 22 = .ok (.ireturn, 1) := by decide +kernel
theorem dX11_join_23 : decode cX11_join 23 = .ok (.iload_n 1, 1) := by decide +kernel
theorem dX11_join_24 : decode cX11_join 24 = .ok (.iload_n 2, 1) := by decide +kernel
theorem dX11_join_25 : decode cX11_join 25 = .ok (.if_icmp .eq 24, 3) := by decide +kernel
theorem dX11_join_28 : decode cX11_join 28 = .ok (.aload_n 0, 1) := by decide +kernel
theorem dX11_join_29 : decode cX11_join 29 = .ok (.getfield 17, 3) := by decide +kernel
theorem dX11_join_32 : decode cX11_join 32 = .ok (.bipush 13, 2) := by decide +kernel
theorem dX11_join_34 : decode cX11_join 34 = .ok (.iload_n 1, 1) := by decide +kernel
theorem dX11_join_35 : decode cX11_join 35 = .ok (.imul, 1) := by decide +kernel
theorem dX11_join_36 : decode cX11_join 36 = .ok (.iaload, 1) := by decide +kernel
theorem dX11_join_37 : decode cX11_join 37 = .ok (.aload_n 0, 1) := by decide +kernel
theorem dX11_join_38 : decode cX11_join 38 = .ok (.getfield 17, 3) := by decide +kernel
theorem dX11_join_41 : decode cX11_join 41 = .ok (.bipush 13, 2) := by decide +kernel
theorem dX11_join_43 : decode cX11_join 43 = .ok (.iload_n 2, 1) := by decide +kernel
theorem dX11_join_44 : decode cX11_join 44 = .ok (.imul, 1) := by decide +kernel
theorem dX11_join_45 : decode cX11_join 45 = .ok (.iaload, 1) := by decide +kernel
theorem dX11_join_46 : decode cX11_join 46 = .ok (.if_icmp .eq 6, 3) := by decide +kernel
theorem dX11_join_49 : decode cX11_join 49 = .ok (.bipush (-3), 2) := by decide +kernel
theorem dX11_join_51 : decode cX11_join 51 = .ok (.ireturn, 1) := by decide +kernel
theorem dX11_join_52 : decode cX11_join 52 = .ok (.iload_n 1, 1) := by decide +kernel
theorem dX11_join_53 : decode cX11_join 53 = .ok (.iload_n 2, 1) := by decide +kernel
theorem dX11_join_54 : decode cX11_join 54 = .ok (.if_icmp .ge 7, 3) := by decide +kernel
theorem dX11_join_57 : decode cX11_join 57 = .ok (.iload_n 1, 1) := by decide +kernel
theorem dX11_join_58 : decode cX11_join 58 = .ok (.goto 4, 3) := by decide +kernel
theorem dX11_join_61 : decode cX11_join 61 = .ok (.iload_n 2, 1) := by decide +kernel
theorem dX11_join_62 : decode cX11_join 62 = .ok (.istore_n 3, 1) := by decide +kernel
theorem dX11_join_63 : decode cX11_join 63 = .ok (.iload_n 1, 1) := by decide +kernel
theorem dX11_join_64 : decode cX11_join 64 = .ok (.iload_n 2, 1) := by decide +kernel
theorem dX11_join_65 : decode cX11_join 65 = .ok (.if_icmp .ge 7, 3) := by decide +kernel
theorem dX11_join_68 : decode cX11_join 68 = .ok (.iload_n 2, 1) := by decide +kernel
theorem dX11_join_69 : decode cX11_join 69 = .ok (.goto 4, 3) := by decide +kernel
theorem dX11_join_72 : decode cX11_join 72 = .ok (.iload_n 1, 1) := by decide +kernel
theorem dX11_join_73 : decode cX11_join 73 = .ok (.istore 4, 2) := by decide +kernel
theorem dX11_join_75 : decode cX11_join 75 = .ok (.aload_n 0, 1) := by decide +kernel
theorem dX11_join_76 : decode cX11_join 76 = .ok (.iload_n 3, 1) := by decide +kernel
theorem dX11_join_77 : decode cX11_join 77 = .ok (.iload 4, 2) := by decide +kernel
theorem dX11_join_79 : decode cX11_join 79 = .ok (.invokevirtual 389, 3) := by decide +kernel
theorem dX11_join_82 : decode cX11_join 82 = .ok (.istore 5, 2) := by decide +kernel
theorem dX11_join_84 : decode cX11_join 84 = .ok (.aload_n 0, 1) := by decide +kernel
theorem dX11_join_85 : decode cX11_join 85 = .ok (.iload 4, 2) := by decide +kernel
theorem dX11_join_87 : decode cX11_join 87 = .ok (.iload_n 3, 1) := by decide +kernel
theorem dX11_join_88 : decode cX11_join 88 = .ok (.invokevirtual 389, 3) := by decide +kernel
theorem dX11_join_91 : decode cX11_join 91 = .ok (.istore 6, 2) := by decide +kernel
theorem dX11_join_93 : decode cX11_join 93 = .ok (.iload 5, 2) := by decide +kernel
theorem dX11_join_95 : decode cX11_join 95 = .ok (.iconst (-1), 1) := by decide +kernel
theorem dX11_join_96 : decode cX11_join 96 = .ok (.if_icmp .eq 9, 3) := by decide +kernel
theorem dX11_join_99 : decode cX11_join 99 = .ok (.iload 6, 2) := by decide +kernel
theorem dX11_join_101 : decode cX11_join 101 = .ok (.iconst (-1), 1) := by decide +kernel
theorem dX11_join_102 : decode cX11_join 102 = .ok (.if_icmp .ne 6, 3) := by decide +kernel
theorem dX11_join_105 : decode cX11_join 105 = .ok (.bipush (-3), 2) := by decide +kernel
theorem dX11_join_107 : decode cX11_join 107 = .ok (.ireturn, 1) := by decide +kernel
theorem dX11_join_108 : decode cX11_join 108 = .ok (.iconst 0, 1) := by decide +kernel
theorem dX11_join_109 : decode cX11_join 109 = .ok (.istore 7, 2) := by decide +kernel
theorem dX11_join_111 : decode cX11_join 111 = .ok (.iload 7, 2) := by decide +kernel
theorem dX11_join_113 : decode cX11_join 113 = .ok (.iconst 4, 1) := by decide +kernel
theorem dX11_join_114 : decode cX11_join 114 = .ok (.if_icmp .ge 77, 3) := by decide +kernel
theorem dX11_join_117 : decode cX11_join 117 = .ok (.iload 7, 2) := by decide +kernel
theorem dX11_join_119 : decode cX11_join 119 = .ok (.iload 5, 2) := by decide +kernel
theorem dX11_join_121 : decode cX11_join 121 = .ok (.if_icmp .eq 64, 3) := by decide +kernel
theorem dX11_join_124 : decode cX11_join 124 = .ok (.aload_n 0, 1) := by decide +kernel
theorem dX11_join_125 : decode cX11_join 125 = .ok (.iload_n 3, 1) := by decide +kernel
theorem dX11_join_126 : decode cX11_join 126 = .ok (.iload 7, 2) := by decide +kernel
theorem dX11_join_128 : decode cX11_join 128 = .ok (.iload 5, 2) := by decide +kernel
theorem dX11_join_130 : decode cX11_join 130 = .ok (.iload 4, 2) := by decide +kernel
theorem dX11_join_132 : decode cX11_join 132 = .ok (.iload 6, 2) := by decide +kernel
theorem dX11_join_134 : decode cX11_join 134 = .ok (.invokevirtual 392, 3) := by decide +kernel
theorem dX11_join_137 : decode cX11_join 137 = .ok (.ifCond .ne 6, 3) := by decide +kernel
theorem dX11_join_140 : decode cX11_join 140 = .ok (.goto 45, 3) := by decide +kernel
theorem dX11_join_143 : decode cX11_join 143 = .ok (.aload_n 0, 1) := by decide +kernel
theorem dX11_join_144 : decode cX11_join 144 = .ok (.iload_n 3, 1) := by decide +kernel
theorem dX11_join_145 : decode cX11_join 145 = .ok (.iload 7, 2) := by decide +kernel
theorem dX11_join_147 : decode cX11_join 147 = .ok (.aload_n 0, 1) := by decide +kernel
theorem dX11_join_148 : decode cX11_join 148 = .ok (.iload 4, 2) := by decide +kernel
theorem dX11_join_150 : decode cX11_join 150 = .ok (.iload 6, 2) := by decide +kernel
theorem dX11_join_152 : decode cX11_join 152 = .ok (.iconst 0, 1) := by decide +kernel
theorem dX11_join_153 : decode cX11_join 153 = .ok (.invokevirtual 201, 3) := by decide +kernel
theorem dX11_join_156 : decode cX11_join 156 = .ok (.aload_n 0, 1) := by decide +kernel
theorem dX11_join_157 : decode cX11_join 157 = .ok (.iload 4, 2) := by decide +kernel
theorem dX11_join_159 : decode cX11_join 159 = .ok (.iload 6, 2) := by decide +kernel
theorem dX11_join_161 : decode cX11_join 161 = .ok (.iconst 1, 1) := by decide +kernel
theorem dX11_join_162 : decode cX11_join 162 = .ok (.invokevirtual 201, 3) := by decide +kernel
theorem dX11_join_165 : decode cX11_join 165 = .ok (.aload_n 0, 1) := by decide +kernel
theorem dX11_join_166 : decode cX11_join 166 = .ok (.iload 4, 2) := by decide +kernel
theorem dX11_join_168 : decode cX11_join 168 = .ok (.iload 6, 2) := by decide +kernel
theorem dX11_join_170 : decode cX11_join 170 = .ok (.iconst 2, 1) := by decide +kernel
theorem dX11_join_171 : decode cX11_join 171 = .ok (.invokevirtual 201, 3) := by decide +kernel
theorem dX11_join_174 : decode cX11_join 174 = .ok (.invokevirtual 220, 3) := by decide +kernel
theorem dX11_join_177 : decode cX11_join 177 = .ok (.aload_n 0, 1) := by decide +kernel
theorem dX11_join_178 : decode cX11_join 178 = .ok (.iload 4, 2) := by decide +kernel
theorem dX11_join_180 : decode cX11_join 180 = .ok (.invokevirtual 396, 3) := by decide +kernel
theorem dX11_join_183 : decode cX11_join 183 = .ok (.iload_n 3, 1) := by decide +kernel
theorem dX11_join_184 : decode cX11_join 184 = .ok (.ireturn, 1) := by decide +kernel
theorem dX11_join_185 : decode cX11_join 185 = .ok (.iinc 7 1, 3) := by decide +kernel
theorem dX11_join_188 : decode cX11_join 188 = .ok (.goto (-77), 3) := by decide +kernel
theorem dX11_join_191 : decode cX11_join 191 = .ok (.bipush (-3), 2) := by decide +kernel
theorem dX11_join_193 : decode cX11_join 193 = .ok (.ireturn, 1) := by decide +kernel
set_option maxRecDepth 20000 in
theorem ggX11_goes_X11_copyTet : GoodIn wsX11_goes wsX11_copyTet := goodIn_r _ [7, 8, 9, 10, 11, 12, 13, 14, 15, 16, 17, 18, 19, 20, 21, 22, 23, 24, 25, 26, 27, 28, 29, 30, 31, 32, 33, 34, 35, 36, 37, 38, 39, 40, 41, 42, 43, 44, 45, 46, 47, 48, 49, 50, 51, 52, 53, 54, 55, 56, 57, 58, 59, 60] (by decide +kernel) (by decide +kernel)
set_option maxRecDepth 20000 in
theorem gX11_goes_X11_copyTet : GoodIn wsX11_goes (wsV RX11 366 RX11 yX11_copyTet wsX11_copyTet) := goodIn_app (goodIn_of _ (by decide +kernel)) ggX11_goes_X11_copyTet
theorem dX11_goes_0 : decode cX11_goes 0 = .ok (.iload_n 1, 1) := by decide +kernel
theorem dX11_goes_1 : decode cX11_goes 1 = .ok (.istore_n 2, 1) := by decide +kernel
theorem dX11_goes_2 : decode cX11_goes 2 = .ok (.iload_n 2, 1) := by decide +kernel
theorem dX11_goes_3 : decode cX11_goes 3 = .ok (.iconst 1, 1) := by decide +kernel
theorem dX11_goes_4 : decode cX11_goes 4 = .ok (.iadd, 1) := by decide +kernel
theorem dX11_goes_5 : decode cX11_goes 5 = .ok (.aload_n 0, 1) := by decide +kernel
theorem dX11_goes_6 : decode cX11_goes 6 = .ok (.getfield 191, 3) := by decide +kernel
theorem dX11_goes_9 : decode cX11_goes 9 = .ok (.if_icmp .ge 17, 3) := by decide +kernel
theorem dX11_goes_12 : decode cX11_goes 12 = .ok (.aload_n 0, 1) := by decide +kernel
theorem dX11_goes_13 : decode cX11_goes 13 = .ok (.iload_n 2, 1) := by decide +kernel
theorem dX11_goes_14 : decode cX11_goes 14 = .ok (.iconst 1, 1) := by decide +kernel
theorem dX11_goes_15 : decode cX11_goes 15 = .ok (.iadd, 1) := by decide +kernel
theorem dX11_goes_16 : decode cX11_goes 16 = .ok (.iload_n 2, 1) := by decide +kernel
theorem dX11_goes_17 : decode cX11_goes 17 = .ok (.invokevirtual 366, 3) := by decide +kernel
theorem dX11_goes_20 : decode cX11_goes 20 = .ok (.iinc 2 1, 3) := by decide +kernel
theorem dX11_goes_23 : decode cX11_goes 23 = .ok (.goto (-21), 3) := by decide +kernel
theorem dX11_goes_26 : decode cX11_goes 26 = .ok (.aload_n 0, 1) := by decide +kernel
theorem dX11_goes_27 : decode cX11_goes 27 = .ok (.dup, 1) := by decide +kernel
theorem dX11_goes_28 : decode cX11_goes 28 = .ok (.getfield 191, 3) := by decide +kernel
theorem dX11_goes_31 : decode cX11_goes 31 = .ok (.iconst 1, 1) := by decide +kernel
theorem dX11_goes_32 : decode cX11_goes 32 = .ok (.isub, 1) := by decide +kernel
theorem dX11_goes_33 : decode cX11_goes 33 = .ok (.putfield 191, 3) := by decide +kernel
theorem dX11_goes_36 : decode cX11_goes 36 = .ok (.aload_n 0, 1) := by decide +kernel
theorem dX11_goes_37 : decode cX11_goes 37 = .ok (.iconst 0, 1) := by decide +kernel
theorem dX11_goes_38 : decode cX11_goes 38 = .ok (.putfield 194, 3) := by decide +kernel
theorem dX11_goes_41 : decode cX11_goes 41 = .ok (.return_, 1) := by decide +kernel
set_option maxRecDepth 20000 in
theorem ggX11_turn_X11_isTet : GoodIn wsX11_turn wsX11_isTet := goodIn_r _ [9, 10, 28, 29, 30, 31, 32, 33, 34, 35, 36, 37, 38, 39, 40, 41, 42, 43, 44, 45, 46, 47, 48, 49, 50, 51, 52, 53, 54, 55, 56, 57, 58, 59, 60, 61, 62, 63, 64, 65, 66, 67, 68, 69, 70, 71, 72, 73, 74, 75, 76, 77, 78, 79] (by decide +kernel) (by decide +kernel)
set_option maxRecDepth 20000 in
theorem gX11_turn_X11_isTet : GoodIn wsX11_turn (wsV RX11 295 RX11 yX11_isTet wsX11_isTet) := goodIn_app (goodIn_of _ (by decide +kernel)) ggX11_turn_X11_isTet
set_option maxRecDepth 20000 in
theorem ggX11_turn_X11_isIn : GoodIn wsX11_turn wsX11_isIn := goodIn_r _ [13] (by decide +kernel) (by decide +kernel)
set_option maxRecDepth 20000 in
theorem gX11_turn_X11_isIn : GoodIn wsX11_turn (va_wsS RX11 303 yX11_isIn wsX11_isIn) := goodIn_app (goodIn_of _ (by decide +kernel)) ggX11_turn_X11_isIn
set_option maxRecDepth 20000 in
theorem ggX11_turn_X11_copyTet : GoodIn wsX11_turn wsX11_copyTet := goodIn_r _ [17, 3, 28, 29, 30, 31, 32, 33, 34, 35, 36, 37, 38, 39, 40, 41, 42, 43, 44, 45, 46, 47, 48, 49, 50, 51, 52, 53, 54, 55, 56, 57, 58, 59, 60, 61, 62, 63, 64, 65, 66, 67, 68, 69, 70, 71, 72, 73, 74, 75, 76, 77, 78, 79] (by decide +kernel) (by decide +kernel)
set_option maxRecDepth 20000 in
theorem gX11_turn_X11_copyTet : GoodIn wsX11_turn (wsV RX11 366 RX11 yX11_copyTet wsX11_copyTet) := goodIn_app (goodIn_of _ (by decide +kernel)) ggX11_turn_X11_copyTet
set_option maxRecDepth 20000 in
theorem ggX11_turn_X11_axisOf : GoodIn wsX11_turn wsX11_axisOf := goodIn_r _ [20] (by decide +kernel) (by decide +kernel)
set_option maxRecDepth 20000 in
theorem gX11_turn_X11_axisOf : GoodIn wsX11_turn (va_wsS RX11 224 yX11_axisOf wsX11_axisOf) := goodIn_app (goodIn_of _ (by decide +kernel)) ggX11_turn_X11_axisOf
set_option maxRecDepth 20000 in
theorem ggX11_turn_X11_of : GoodIn wsX11_turn wsX11_of := goodIn_r _ [24, 3, 25, 26, 8, 27, 28, 29, 30, 31, 32, 33, 34, 35, 36, 37, 38, 39, 40, 41, 42, 43, 44, 45, 46, 47, 48, 49, 50, 51, 52, 53, 54, 55, 56, 57, 58, 59, 60, 61, 62, 63, 64, 65, 66, 67, 68, 69, 70, 71, 72, 73, 74, 75, 76, 77, 78, 79] (by decide +kernel) (by decide +kernel)
set_option maxRecDepth 20000 in
theorem gX11_turn_X11_of : GoodIn wsX11_turn (wsV RX11 201 RX11 yX11_of wsX11_of) := goodIn_app (goodIn_of _ (by decide +kernel)) ggX11_turn_X11_of
set_option maxRecDepth 20000 in
theorem ggX11_turn_X11_place : GoodIn wsX11_turn wsX11_place := goodIn_r _ [27] (by decide +kernel) (by decide +kernel)
set_option maxRecDepth 20000 in
theorem gX11_turn_X11_place : GoodIn wsX11_turn (va_wsS RX11 197 yX11_place wsX11_place) := goodIn_app (goodIn_of _ (by decide +kernel)) ggX11_turn_X11_place
theorem dX11_turn_0 : decode cX11_turn 0 = .ok (.aload_n 0, 1) := by decide +kernel
theorem dX11_turn_1 : decode cX11_turn 1 = .ok (.iconst 0, 1) := by decide +kernel
theorem dX11_turn_2 : decode cX11_turn 2 = .ok (.putfield 106, 3) := by decide +kernel
theorem dX11_turn_5 : decode cX11_turn 5 = .ok (.aload_n 0, 1) := by decide +kernel
theorem dX11_turn_6 : decode cX11_turn 6 = .ok (.iload_n 1, 1) := by decide +kernel
theorem dX11_turn_7 : decode cX11_turn 7 = .ok (.invokevirtual 295, 3) := by decide +kernel
theorem dX11_turn_10 : decode cX11_turn 10 = .ok (.ifCond .ne 5, 3) := by decide +kernel
theorem dX11_turn_13 : decode cX11_turn 13 = .ok (.iconst (-1), 1) := by decide +kernel
theorem dX11_turn_14 : decode cX11_turn 14 = .ok (.ireturn, 1) := by decide +kernel
theorem dX11_turn_15 : decode cX11_turn 15 = .ok (.iload_n 2, 1) := by decide +kernel
theorem dX11_turn_16 : decode cX11_turn 16 = .ok (.i2l, 1) := by decide +kernel
theorem dX11_turn_17 : decode cX11_turn 17 = .ok (.lconst 0, 1) := by decide +kernel
theorem dX11_turn_18 : decode cX11_turn 18 = .ok (.ldc2_w 399, 3) := by decide +kernel
theorem dX11_turn_21 : decode cX11_turn 21 = .ok (.invokestatic 303, 3) := by decide +kernel
theorem dX11_turn_24 : decode cX11_turn 24 = .ok (.ifCond .ne 6, 3) := by decide +kernel
theorem dX11_turn_27 : decode cX11_turn 27 = .ok (.bipush (-2), 2) := by decide +kernel
theorem dX11_turn_29 : decode cX11_turn 29 = .ok (.ireturn, 1) := by decide +kernel
theorem dX11_turn_30 : decode cX11_turn 30 = .ok (.aload_n 0, 1) := by decide +kernel
theorem dX11_turn_31 : decode cX11_turn 31 = .ok (.iload_n 1, 1) := by decide +kernel
theorem dX11_turn_32 : decode cX11_turn 32 = .ok (.bipush 48, 2) := by decide +kernel
theorem dX11_turn_34 : decode cX11_turn 34 = .ok (.invokevirtual 366, 3) := by decide +kernel
theorem dX11_turn_37 : decode cX11_turn 37 = .ok (.iconst 0, 1) := by decide +kernel
theorem dX11_turn_38 : decode cX11_turn 38 = .ok (.istore_n 3, 1) := by decide +kernel
theorem dX11_turn_39 : decode cX11_turn 39 = .ok (.iconst 0, 1) := by decide +kernel
theorem dX11_turn_40 : decode cX11_turn 40 = .ok (.istore 4, 2) := by decide +kernel
theorem dX11_turn_42 : decode cX11_turn 42 = .ok (.iload 4, 2) := by decide +kernel
theorem dX11_turn_44 : decode cX11_turn 44 = .ok (.iconst 4, 1) := by decide +kernel
theorem dX11_turn_45 : decode cX11_turn 45 = .ok (.if_icmp .ge 99, 3) := by decide +kernel
theorem dX11_turn_48 : decode cX11_turn 48 = .ok (.iconst 0, 1) := by decide +kernel
theorem dX11_turn_49 : decode cX11_turn 49 = .ok (.istore 5, 2) := by decide +kernel
theorem dX11_turn_51 : decode cX11_turn 51 = .ok (.iload 5, 2) := by decide +kernel
theorem dX11_turn_53 : decode cX11_turn 53 = .ok (.iconst 3, 1) := by decide +kernel
theorem dX11_turn_54 : decode cX11_turn 54 = .ok (.if_icmp .ge 84, 3) := by decide +kernel
theorem dX11_turn_57 : decode cX11_turn 57 = .ok (.aload_n 0, 1) := by decide +kernel
theorem dX11_turn_58 : decode cX11_turn 58 = .ok (.bipush 48, 2) := by decide +kernel
theorem dX11_turn_60 : decode cX11_turn 60 = .ok (.iload 4, 2) := by decide +kernel
theorem dX11_turn_62 : decode cX11_turn 62 = .ok (.iload_n 2, 1) := by decide +kernel
theorem dX11_turn_63 : decode cX11_turn 63 = .ok (.bipush 8, 2) := by decide +kernel
theorem dX11_turn_65 : decode cX11_turn 65 = .ok (.idiv, 1) := by decide +kernel
theorem dX11_turn_66 : decode cX11_turn 66 = .ok (.iload 5, 2) := by decide +kernel
theorem dX11_turn_68 : decode cX11_turn 68 = .ok (.invokestatic 224, 3) := by decide +kernel
theorem dX11_turn_71 : decode cX11_turn 71 = .ok (.invokevirtual 201, 3) := by decide +kernel
theorem dX11_turn_74 : decode cX11_turn 74 = .ok (.istore 6, 2) := by decide +kernel
theorem dX11_turn_76 : decode cX11_turn 76 = .ok (.iload_n 2, 1) := by decide +kernel
theorem dX11_turn_77 : decode cX11_turn 77 = .ok (.bipush 8, 2) := by decide +kernel
theorem dX11_turn_79 : decode cX11_turn 79 = .ok (.irem, 1) := by decide +kernel
theorem dX11_turn_80 : decode cX11_turn 80 = .ok (.iload 5, 2) := by decide +kernel
theorem dX11_turn_82 : decode cX11_turn 82 = .ok (.ishr, 1) := by decide +kernel
theorem dX11_turn_83 : decode cX11_turn 83 = .ok (.iconst 1, 1) := by decide +kernel
theorem dX11_turn_84 : decode cX11_turn 84 = .ok (.iand, 1) := by decide +kernel
theorem dX11_turn_85 : decode cX11_turn 85 = .ok (.iconst 1, 1) := by decide +kernel
theorem dX11_turn_86 : decode cX11_turn 86 = .ok (.if_icmp .ne 8, 3) := by decide +kernel
theorem dX11_turn_89 : decode cX11_turn 89 = .ok (.iload 6, 2) := by decide +kernel
theorem dX11_turn_91 : decode cX11_turn 91 = .ok (.ineg, 1) := by decide +kernel
theorem dX11_turn_92 : decode cX11_turn 92 = .ok (.istore 6, 2) := by decide +kernel
theorem dX11_turn_94 : decode cX11_turn 94 = .ok (.iload_n 3, 1) := by decide +kernel
theorem dX11_turn_95 : decode cX11_turn 95 = .ok (.iload 6, 2) := by decide +kernel
theorem dX11_turn_97 : decode cX11_turn 97 = .ok (.aload_n 0, 1) := by decide +kernel
theorem dX11_turn_98 : decode cX11_turn 98 = .ok (.bipush 48, 2) := by decide +kernel
theorem dX11_turn_100 : decode cX11_turn 100 = .ok (.iload 4, 2) := by decide +kernel
theorem dX11_turn_102 : decode cX11_turn 102 = .ok (.iload 5, 2) := by decide +kernel
theorem dX11_turn_104 : decode cX11_turn 104 = .ok (.invokevirtual 201, 3) := by decide +kernel
theorem dX11_turn_107 : decode cX11_turn 107 = .ok (.if_icmp .ne 7, 3) := by decide +kernel
theorem dX11_turn_110 : decode cX11_turn 110 = .ok (.iconst 0, 1) := by decide +kernel
theorem dX11_turn_111 : decode cX11_turn 111 = .ok (.goto 4, 3) := by decide +kernel
theorem dX11_turn_114 : decode cX11_turn 114 = .ok (.iconst 1, 1) := by decide +kernel
theorem dX11_turn_115 : decode cX11_turn 115 = .ok (.iadd, 1) := by decide +kernel
theorem dX11_turn_116 : decode cX11_turn 116 = .ok (.istore_n 3, 1) := by decide +kernel
theorem dX11_turn_117 : decode cX11_turn 117 = .ok (.aload_n 0, 1) := by decide +kernel
theorem dX11_turn_118 : decode cX11_turn 118 = .ok (.getfield 17, 3) := by decide +kernel
theorem dX11_turn_121 : decode cX11_turn 121 = .ok (.iload_n 1, 1) := by decide +kernel
theorem dX11_turn_122 : decode cX11_turn 122 = .ok (.iload 4, 2) := by decide +kernel
theorem dX11_turn_124 : decode cX11_turn 124 = .ok (.iload 5, 2) := by decide +kernel
theorem dX11_turn_126 : decode cX11_turn 126 = .ok (.invokestatic 197, 3) := by decide +kernel
theorem dX11_turn_129 : decode cX11_turn 129 = .ok (.iload 6, 2) := by decide +kernel
theorem dX11_turn_131 : decode cX11_turn 131 = .ok (.iastore, 1) := by decide +kernel
theorem dX11_turn_132 : decode cX11_turn 132 = .ok (.iinc 5 1, 3) := by decide +kernel
theorem dX11_turn_135 : decode cX11_turn 135 = .ok (.goto (-84), 3) := by decide +kernel
theorem dX11_turn_138 : decode cX11_turn 138 = .ok (.iinc 4 1, 3) := by decide +kernel
theorem dX11_turn_141 : decode cX11_turn 141 = .ok (.goto (-99), 3) := by decide +kernel
theorem dX11_turn_144 : decode cX11_turn 144 = .ok (.iload_n 3, 1) := by decide +kernel
theorem dX11_turn_145 : decode cX11_turn 145 = .ok (.ifCond .ne 6, 3) := by decide +kernel
theorem dX11_turn_148 : decode cX11_turn 148 = .ok (.bipush (-3), 2) := by decide +kernel
theorem dX11_turn_150 : decode cX11_turn 150 = .ok (.ireturn, 1) := by decide +kernel
theorem dX11_turn_151 : decode cX11_turn 151 = .ok (.aload_n 0, 1) := by decide +kernel
theorem dX11_turn_152 : decode cX11_turn 152 = .ok (.iconst 0, 1) := by decide +kernel
theorem dX11_turn_153 : decode cX11_turn 153 = .ok (.putfield 194, 3) := by decide +kernel
theorem dX11_turn_156 : decode cX11_turn 156 = .ok (.iload_n 3, 1) := by decide +kernel
theorem dX11_turn_157 : decode cX11_turn 157 = .ok (.ireturn, 1) := by decide +kernel
set_option maxRecDepth 20000 in
theorem ggX11_move_X11_isTet : GoodIn wsX11_move wsX11_isTet := goodIn_r _ [11, 12, 47, 48, 49, 50, 51, 52, 53, 54, 55, 56, 57, 58, 59, 60, 61, 62, 63, 64, 65, 66, 67, 68, 69, 70, 71, 72, 73, 74, 75, 76, 77, 78, 79, 80, 81, 82, 83, 84, 85, 86, 87, 88, 89, 90, 91, 92, 93, 94, 95, 96, 97, 98] (by decide +kernel) (by decide +kernel)
set_option maxRecDepth 20000 in
theorem gX11_move_X11_isTet : GoodIn wsX11_move (wsV RX11 295 RX11 yX11_isTet wsX11_isTet) := goodIn_app (goodIn_of _ (by decide +kernel)) ggX11_move_X11_isTet
set_option maxRecDepth 20000 in
theorem ggX11_move_X11_isIn : GoodIn wsX11_move wsX11_isIn := goodIn_r _ [15] (by decide +kernel) (by decide +kernel)
set_option maxRecDepth 20000 in
theorem gX11_move_X11_isIn : GoodIn wsX11_move (va_wsS RX11 303 yX11_isIn wsX11_isIn) := goodIn_app (goodIn_of _ (by decide +kernel)) ggX11_move_X11_isIn
set_option maxRecDepth 20000 in
theorem ggX11_move_X11_of : GoodIn wsX11_move wsX11_of := goodIn_r _ [19, 20, 21, 22, 10, 23, 47, 48, 49, 50, 51, 52, 53, 54, 55, 56, 57, 58, 59, 60, 61, 62, 63, 64, 65, 66, 67, 68, 69, 70, 71, 72, 73, 74, 75, 76, 77, 78, 79, 80, 81, 82, 83, 84, 85, 86, 87, 88, 89, 90, 91, 92, 93, 94, 95, 96, 97, 98] (by decide +kernel) (by decide +kernel)
set_option maxRecDepth 20000 in
theorem gX11_move_X11_of : GoodIn wsX11_move (wsV RX11 201 RX11 yX11_of wsX11_of) := goodIn_app (goodIn_of _ (by decide +kernel)) ggX11_move_X11_of
set_option maxRecDepth 20000 in
theorem ggX11_move_X11_lays : GoodIn wsX11_move wsX11_lays := goodIn_r _ [27, 20, 21, 22, 10, 23, 47, 48, 49, 50, 51, 52, 53, 54, 55, 56, 57, 58, 59, 60, 61, 62, 63, 64, 65, 66, 67, 68, 69, 70, 71, 72, 73, 74, 75, 76, 77, 78, 79, 80, 81, 82, 83, 84, 85, 86, 87, 88, 89, 90, 91, 92, 93, 94, 95, 96, 97, 98] (by decide +kernel) (by decide +kernel)
set_option maxRecDepth 20000 in
theorem gX11_move_X11_lays : GoodIn wsX11_move (wsV RX11 220 RX11 yX11_lays wsX11_lays) := goodIn_app (goodIn_of _ (by decide +kernel)) ggX11_move_X11_lays
set_option maxRecDepth 20000 in
theorem ggX11_move_X11_six : GoodIn wsX11_move wsX11_six := goodIn_r _ [31, 32, 33, 34, 35, 36, 37, 38, 10, 39, 40, 41, 42, 43, 16, 17, 18, 19, 20, 21, 22, 23, 44, 45, 46, 47, 48, 49, 50, 51, 52, 53, 54, 55, 56, 57, 58, 59, 60, 61, 62, 63, 64, 65, 66, 67, 68, 69, 70, 71, 72, 73, 74, 75, 76, 77, 78, 79, 80, 81, 82, 83, 84, 85, 86, 87, 88, 89, 90, 91, 92, 93, 94, 95, 96, 97, 98] (by decide +kernel) (by decide +kernel)
set_option maxRecDepth 20000 in
theorem gX11_move_X11_six : GoodIn wsX11_move (wsV RX11 261 RX11 yX11_six wsX11_six) := goodIn_app (goodIn_of _ (by decide +kernel)) ggX11_move_X11_six
theorem dX11_move_0 : decode cX11_move 0 = .ok (.aload_n 0, 1) := by decide +kernel
theorem dX11_move_1 : decode cX11_move 1 = .ok (.iconst 0, 1) := by decide +kernel
theorem dX11_move_2 : decode cX11_move 2 = .ok (.putfield 106, 3) := by decide +kernel
theorem dX11_move_5 : decode cX11_move 5 = .ok (.aload_n 0, 1) := by decide +kernel
theorem dX11_move_6 : decode cX11_move 6 = .ok (.iload_n 1, 1) := by decide +kernel
theorem dX11_move_7 : decode cX11_move 7 = .ok (.invokevirtual 295, 3) := by decide +kernel
theorem dX11_move_10 : decode cX11_move 10 = .ok (.ifCond .ne 5, 3) := by decide +kernel
theorem dX11_move_13 : decode cX11_move 13 = .ok (.iconst (-1), 1) := by decide +kernel
theorem dX11_move_14 : decode cX11_move 14 = .ok (.ireturn, 1) := by decide +kernel
theorem dX11_move_15 : decode cX11_move 15 = .ok (.iload_n 2, 1) := by decide +kernel
theorem dX11_move_16 : decode cX11_move 16 = .ok (.i2l, 1) := by decide +kernel
theorem dX11_move_17 : decode cX11_move 17 = .ok (.ldc2_w 401, 3) := by decide +kernel
theorem dX11_move_20 : decode cX11_move 20 = .ok (.ldc2_w 403, 3) := by decide +kernel
theorem dX11_move_23 : decode cX11_move 23 = .ok (.invokestatic 303, 3) := by decide +kernel
theorem dX11_move_26 : decode cX11_move 26 = .ok (.ifCond .eq 32, 3) := by decide +kernel
theorem dX11_move_29 : decode cX11_move 29 = .ok (.iload_n 3, 1) := by decide +kernel
theorem dX11_move_30 : decode cX11_move 30 = .ok (.i2l, 1) := by decide +kernel
theorem dX11_move_31 : decode cX11_move 31 = .ok (.ldc2_w 401, 3) := by decide +kernel
theorem dX11_move_34 : decode cX11_move 34 = .ok (.ldc2_w 403, 3) := by decide +kernel
theorem dX11_move_37 : decode cX11_move 37 = .ok (.invokestatic 303, 3) := by decide +kernel
theorem dX11_move_40 : decode cX11_move 40 = .ok (.ifCond .eq 18, 3) := by decide +kernel
theorem dX11_move_43 : decode cX11_move 43 = .ok (.iload 4, 2) := by decide +kernel
theorem dX11_move_45 : decode cX11_move 45 = .ok (.i2l, 1) := by decide +kernel
theorem dX11_move_46 : decode cX11_move 46 = .ok (.ldc2_w 401, 3) := by decide +kernel
theorem dX11_move_49 : decode cX11_move 49 = .ok (.ldc2_w 403, 3) := by decide +kernel
theorem dX11_move_52 : decode cX11_move 52 = .ok (.invokestatic 303, 3) := by decide +kernel
theorem dX11_move_55 : decode cX11_move 55 = .ok (.ifCond .ne 6, 3) := by decide +kernel
theorem dX11_move_58 : decode cX11_move 58 = .ok (.bipush (-2), 2) := by decide +kernel
theorem dX11_move_60 : decode cX11_move 60 = .ok (.ireturn, 1) := by decide +kernel
theorem dX11_move_61 : decode cX11_move 61 = .ok (.iconst 0, 1) := by decide +kernel
theorem dX11_move_62 : decode cX11_move 62 = .ok (.istore 5, 2) := by decide +kernel
theorem dX11_move_64 : decode cX11_move 64 = .ok (.iload 5, 2) := by decide +kernel
theorem dX11_move_66 : decode cX11_move 66 = .ok (.iconst 4, 1) := by decide +kernel
theorem dX11_move_67 : decode cX11_move 67 = .ok (.if_icmp .ge 71, 3) := by decide +kernel
theorem dX11_move_70 : decode cX11_move 70 = .ok (.iconst 0, 1) := by decide +kernel
theorem dX11_move_71 : decode cX11_move 71 = .ok (.istore 6, 2) := by decide +kernel
theorem dX11_move_73 : decode cX11_move 73 = .ok (.iload 6, 2) := by decide +kernel
theorem dX11_move_75 : decode cX11_move 75 = .ok (.iconst 3, 1) := by decide +kernel
theorem dX11_move_76 : decode cX11_move 76 = .ok (.if_icmp .ge 56, 3) := by decide +kernel
theorem dX11_move_79 : decode cX11_move 79 = .ok (.aload_n 0, 1) := by decide +kernel
theorem dX11_move_80 : decode cX11_move 80 = .ok (.iload_n 1, 1) := by decide +kernel
theorem dX11_move_81 : decode cX11_move 81 = .ok (.iload 5, 2) := by decide +kernel
theorem dX11_move_83 : decode cX11_move 83 = .ok (.iload 6, 2) := by decide +kernel
theorem dX11_move_85 : decode cX11_move 85 = .ok (.invokevirtual 201, 3) := by decide +kernel
theorem dX11_move_88 : decode cX11_move 88 = .ok (.iload 6, 2) := by decide +kernel
theorem dX11_move_90 : decode cX11_move 90 = .ok (.ifCond .ne 7, 3) := by decide +kernel
theorem dX11_move_93 : decode cX11_move 93 = .ok (.iload_n 2, 1) := by decide +kernel
theorem dX11_move_94 : decode cX11_move 94 = .ok (.goto 15, 3) := by decide +kernel
theorem dX11_move_97 : decode cX11_move 97 = .ok (.iload 6, 2) := by decide +kernel
theorem dX11_move_99 : decode cX11_move 99 = .ok (.iconst 1, 1) := by decide +kernel
theorem dX11_move_100 : decode cX11_move 100 = .ok (.if_icmp .ne 7, 3) := by decide +kernel
theorem dX11_move_103 : decode cX11_move 103 = .ok (.iload_n 3, 1) := by decide +kernel
theorem dX11_move_104 : decode cX11_move 104 = .ok (.goto 5, 3) := by decide +kernel
theorem dX11_move_107 : decode cX11_move 107 = .ok (.iload 4, 2) := by decide +kernel
theorem dX11_move_109 : decode cX11_move 109 = .ok (.iadd, 1) := by decide +kernel
theorem dX11_move_110 : decode cX11_move 110 = .ok (.i2l, 1) := by decide +kernel
theorem dX11_move_111 : decode cX11_move 111 = .ok (.ldc2_w 369, 3) := by decide +kernel
theorem dX11_move_114 : decode cX11_move 114 = .ok (.ldc2_w 371, 3) := by decide +kernel
theorem dX11_move_117 : decode cX11_move 117 = .ok (.invokestatic 303, 3) := by decide +kernel
theorem dX11_move_120 : decode cX11_move 120 = .ok (.ifCond .ne 6, 3) := by decide +kernel
theorem dX11_move_123 : decode cX11_move 123 = .ok (.bipush (-2), 2) := by decide +kernel
theorem dX11_move_125 : decode cX11_move 125 = .ok (.ireturn, 1) := by decide +kernel
theorem dX11_move_126 : decode cX11_move 126 = .ok (.iinc 6 1, 3) := by decide +kernel
theorem dX11_move_129 : decode cX11_move 129 = .ok (.goto (-56), 3) := by decide +kernel
theorem dX11_move_132 : decode cX11_move 132 = .ok (.iinc 5 1, 3) := by decide +kernel
theorem dX11_move_135 : decode cX11_move 135 = .ok (.goto (-71), 3) := by decide +kernel
theorem dX11_move_138 : decode cX11_move 138 = .ok (.iload_n 2, 1) := by decide +kernel
theorem dX11_move_139 : decode cX11_move 139 = .ok (.ifCond .ne 15, 3) := by decide +kernel
theorem dX11_move_142 : decode cX11_move 142 = .ok (.iload_n 3, 1) := by decide +kernel
theorem dX11_move_143 : decode cX11_move 143 = .ok (.ifCond .ne 11, 3) := by decide +kernel
theorem dX11_move_146 : decode cX11_move 146 = .ok (.iload 4, 2) := by decide +kernel
theorem dX11_move_148 : decode cX11_move 148 = .ok (.ifCond .ne 6, 3) := by decide +kernel
theorem dX11_move_151 : decode cX11_move 151 = .ok (.bipush (-3), 2) := by decide +kernel
theorem dX11_move_153 : decode cX11_move 153 = .ok (.ireturn, 1) := by decide +kernel
theorem dX11_move_154 : decode cX11_move 154 = .ok (.iconst 0, 1) := by decide +kernel
theorem dX11_move_155 : decode cX11_move 155 = .ok (.istore 5, 2) := by decide +kernel
theorem dX11_move_157 : decode cX11_move 157 = .ok (.iload 5, 2) := by decide +kernel
theorem dX11_move_159 : decode cX11_move 159 = .ok (.iconst 4, 1) := by decide +kernel
theorem dX11_move_160 : decode cX11_move 160 = .ok (.if_icmp .ge 47, 3) := by decide +kernel
theorem dX11_move_163 : decode cX11_move 163 = .ok (.aload_n 0, 1) := by decide +kernel
theorem dX11_move_164 : decode cX11_move 164 = .ok (.iload_n 1, 1) := by decide +kernel
theorem dX11_move_165 : decode cX11_move 165 = .ok (.iload 5, 2) := by decide +kernel
theorem dX11_move_167 : decode cX11_move 167 = .ok (.aload_n 0, 1) := by decide +kernel
theorem dX11_move_168 : decode cX11_move 168 = .ok (.iload_n 1, 1) := by decide +kernel
theorem dX11_move_169 : decode cX11_move 169 = .ok (.iload 5, 2) := by decide +kernel
theorem dX11_move_171 : decode cX11_move 171 = .ok (.iconst 0, 1) := by decide +kernel
theorem dX11_move_172 : decode cX11_move 172 = .ok (.invokevirtual 201, 3) := by decide +kernel
theorem dX11_move_175 : decode cX11_move 175 = .ok (.iload_n 2, 1) := by decide +kernel
theorem dX11_move_176 : decode cX11_move 176 = .ok (.iadd, 1) := by decide +kernel
theorem dX11_move_177 : decode cX11_move 177 = .ok (.aload_n 0, 1) := by decide +kernel
theorem dX11_move_178 : decode cX11_move 178 = .ok (.iload_n 1, 1) := by decide +kernel
theorem dX11_move_179 : decode cX11_move 179 = .ok (.iload 5, 2) := by decide +kernel
theorem dX11_move_181 : decode cX11_move 181 = .ok (.iconst 1, 1) := by decide +kernel
theorem dX11_move_182 : decode cX11_move 182 = .ok (.invokevirtual 201, 3) := by decide +kernel
theorem dX11_move_185 : decode cX11_move 185 = .ok (.iload_n 3, 1) := by decide +kernel
theorem dX11_move_186 : decode cX11_move 186 = .ok (.iadd, 1) := by decide +kernel
theorem dX11_move_187 : decode cX11_move 187 = .ok (.aload_n 0, 1) := by decide +kernel
theorem dX11_move_188 : decode cX11_move 188 = .ok (.iload_n 1, 1) := by decide +kernel
theorem dX11_move_189 : decode cX11_move 189 = .ok (.iload 5, 2) := by decide +kernel
theorem dX11_move_191 : decode cX11_move 191 = .ok (.iconst 2, 1) := by decide +kernel
theorem dX11_move_192 : decode cX11_move 192 = .ok (.invokevirtual 201, 3) := by decide +kernel
theorem dX11_move_195 : decode cX11_move 195 = .ok (.iload 4, 2) := by decide +kernel
theorem dX11_move_197 : decode cX11_move 197 = .ok (.iadd, 1) := by decide +kernel
theorem dX11_move_198 : decode cX11_move 198 = .ok (.invokevirtual 220, 3) := by decide +kernel
theorem dX11_move_201 : decode cX11_move 201 = .ok (.iinc 5 1, 3) := by decide +kernel
theorem dX11_move_204 : decode cX11_move 204 = .ok (.goto (-47), 3) := by decide +kernel
theorem dX11_move_207 : decode cX11_move 207 = .ok (.aload_n 0, 1) := by decide +kernel
theorem dX11_move_208 : decode cX11_move 208 = .ok (.iconst 0, 1) := by decide +kernel
theorem dX11_move_209 : decode cX11_move 209 = .ok (.putfield 194, 3) := by decide +kernel
theorem dX11_move_212 : decode cX11_move 212 = .ok (.aload_n 0, 1) := by decide +kernel
theorem dX11_move_213 : decode cX11_move 213 = .ok (.iload_n 1, 1) := by decide +kernel
theorem dX11_move_214 : decode cX11_move 214 = .ok (.invokevirtual 261, 3) := by decide +kernel
theorem dX11_move_217 : decode cX11_move 217 = .ok (.ireturn, 1) := by decide +kernel
set_option maxRecDepth 20000 in
theorem ggX11_give_X11_isTet : GoodIn wsX11_give wsX11_isTet := goodIn_r _ [8, 9, 13, 14, 15, 16, 17, 18, 19, 20, 21, 22, 23, 24, 25, 26, 27, 28, 29, 30, 31, 32, 33, 34, 35, 36, 37, 38, 39, 40, 41, 42, 43, 44, 45, 46, 47, 48, 49, 50, 51, 52, 53, 54, 55, 56, 57, 58, 59, 60, 61, 62, 63, 64] (by decide +kernel) (by decide +kernel)
set_option maxRecDepth 20000 in
theorem gX11_give_X11_isTet : GoodIn wsX11_give (wsV RX11 295 RX11 yX11_isTet wsX11_isTet) := goodIn_app (goodIn_of _ (by decide +kernel)) ggX11_give_X11_isTet
set_option maxRecDepth 20000 in
theorem ggX11_give_X11_isSolid : GoodIn wsX11_give wsX11_isSolid := goodIn_r _ [12] (by decide +kernel) (by decide +kernel)
set_option maxRecDepth 20000 in
theorem gX11_give_X11_isSolid : GoodIn wsX11_give (va_wsS RX11 332 yX11_isSolid wsX11_isSolid) := goodIn_app (goodIn_of _ (by decide +kernel)) ggX11_give_X11_isSolid
theorem dX11_give_0 : decode cX11_give 0 = .ok (.aload_n 0, 1) := by decide +kernel
theorem dX11_give_1 : decode cX11_give 1 = .ok (.iconst 0, 1) := by decide +kernel
theorem dX11_give_2 : decode cX11_give 2 = .ok (.putfield 106, 3) := by decide +kernel
theorem dX11_give_5 : decode cX11_give 5 = .ok (.aload_n 0, 1) := by decide +kernel
theorem dX11_give_6 : decode cX11_give 6 = .ok (.iload_n 1, 1) := by decide +kernel
theorem dX11_give_7 : decode cX11_give 7 = .ok (.invokevirtual 295, 3) := by decide +kernel
theorem dX11_give_10 : decode cX11_give 10 = .ok (.ifCond .eq 10, 3) := by decide +kernel
theorem dX11_give_13 : decode cX11_give 13 = .ok (.iload_n 2, 1) := by decide +kernel
theorem dX11_give_14 : decode cX11_give 14 = .ok (.invokestatic 332, 3) := by decide +kernel
theorem dX11_give_17 : decode cX11_give 17 = .ok (.ifCond .ne 5, 3) := by decide +kernel
theorem dX11_give_20 : decode cX11_give 20 = .ok (.iconst (-1), 1) := by decide +kernel
theorem dX11_give_21 : decode cX11_give 21 = .ok (.ireturn, 1) := by decide +kernel
theorem dX11_give_22 : decode cX11_give 22 = .ok (.aload_n 0, 1) := by decide +kernel
theorem dX11_give_23 : decode cX11_give 23 = .ok (.getfield 17, 3) := by decide +kernel
theorem dX11_give_26 : decode cX11_give 26 = .ok (.bipush 13, 2) := by decide +kernel
theorem dX11_give_28 : decode cX11_give 28 = .ok (.iload_n 1, 1) := by decide +kernel
theorem dX11_give_29 : decode cX11_give 29 = .ok (.imul, 1) := by decide +kernel
theorem dX11_give_30 : decode cX11_give 30 = .ok (.iaload, 1) := by decide +kernel
theorem dX11_give_31 : decode cX11_give 31 = .ok (.istore_n 3, 1) := by decide +kernel
theorem dX11_give_32 : decode cX11_give 32 = .ok (.iload_n 3, 1) := by decide +kernel
theorem dX11_give_33 : decode cX11_give 33 = .ok (.iload_n 2, 1) := by decide +kernel
theorem dX11_give_34 : decode cX11_give 34 = .ok (.if_icmp .ne 6, 3) := by decide +kernel
theorem dX11_give_37 : decode cX11_give 37 = .ok (.bipush (-3), 2) := by decide +kernel
theorem dX11_give_39 : decode cX11_give 39 = .ok (.ireturn, 1) := by decide +kernel
theorem dX11_give_40 : decode cX11_give 40 = .ok (.aload_n 0, 1) := by decide +kernel
theorem dX11_give_41 : decode cX11_give 41 = .ok (.getfield 17, 3) := by decide +kernel
theorem dX11_give_44 : decode cX11_give 44 = .ok (.bipush 13, 2) := by decide +kernel
theorem dX11_give_46 : decode cX11_give 46 = .ok (.iload_n 1, 1) := by decide +kernel
theorem dX11_give_47 : decode cX11_give 47 = .ok (.imul, 1) := by decide +kernel
theorem dX11_give_48 : decode cX11_give 48 = .ok (.iload_n 2, 1) := by decide +kernel
theorem dX11_give_49 : decode cX11_give 49 = .ok (.iastore, 1) := by decide +kernel
theorem dX11_give_50 : decode cX11_give 50 = .ok (.aload_n 0, 1) := by decide +kernel
theorem dX11_give_51 : decode cX11_give 51 = .ok (.iconst 0, 1) := by decide +kernel
theorem dX11_give_52 : decode cX11_give 52 = .ok (.putfield 194, 3) := by decide +kernel
theorem dX11_give_55 : decode cX11_give 55 = .ok (.iload_n 3, 1) := by decide +kernel
theorem dX11_give_56 : decode cX11_give 56 = .ok (.ireturn, 1) := by decide +kernel
set_option maxRecDepth 20000 in
theorem ggX11_drop_X11_isTet : GoodIn wsX11_drop wsX11_isTet := goodIn_r _ [7, 2, 18, 19, 20, 21, 22, 23, 24, 25, 26, 27, 28, 29, 30, 31, 32, 33, 34, 35, 36, 37, 38, 39, 40, 41, 42, 43, 44, 45, 46, 47, 48, 49, 50, 51, 52, 53, 54, 55, 56, 57, 58, 59, 60, 61, 62, 63, 64, 65, 66, 67, 68, 69] (by decide +kernel) (by decide +kernel)
set_option maxRecDepth 20000 in
theorem gX11_drop_X11_isTet : GoodIn wsX11_drop (wsV RX11 295 RX11 yX11_isTet wsX11_isTet) := goodIn_app (goodIn_of _ (by decide +kernel)) ggX11_drop_X11_isTet
set_option maxRecDepth 20000 in
theorem ggX11_drop_X11_goes : GoodIn wsX11_drop wsX11_goes := goodIn_r _ [11, 2, 12, 13, 14, 15, 6, 16, 17, 18, 19, 20, 21, 22, 23, 24, 25, 26, 27, 28, 29, 30, 31, 32, 33, 34, 35, 36, 37, 38, 39, 40, 41, 42, 43, 44, 45, 46, 47, 48, 49, 50, 51, 52, 53, 54, 55, 56, 57, 58, 59, 60, 61, 62, 63, 64, 65, 66, 67, 68, 69] (by decide +kernel) (by decide +kernel)
set_option maxRecDepth 20000 in
theorem gX11_drop_X11_goes : GoodIn wsX11_drop (wsV RX11 396 RX11 yX11_goes wsX11_goes) := goodIn_app (goodIn_of _ (by decide +kernel)) ggX11_drop_X11_goes
theorem dX11_drop_0 : decode cX11_drop 0 = .ok (.aload_n 0, 1) := by decide +kernel
theorem dX11_drop_1 : decode cX11_drop 1 = .ok (.iconst 0, 1) := by decide +kernel
theorem dX11_drop_2 : decode cX11_drop 2 = .ok (.putfield 106, 3) := by decide +kernel
theorem dX11_drop_5 : decode cX11_drop 5 = .ok (.aload_n 0, 1) := by decide +kernel
theorem dX11_drop_6 : decode cX11_drop 6 = .ok (.iload_n 1, 1) := by decide +kernel
theorem dX11_drop_7 : decode cX11_drop 7 = .ok (.invokevirtual 295, 3) := by decide +kernel
theorem dX11_drop_10 : decode cX11_drop 10 = .ok (.ifCond .ne 5, 3) := by decide +kernel
theorem dX11_drop_13 : decode cX11_drop 13 = .ok (.iconst (-1), 1) := by decide +kernel
theorem dX11_drop_14 : decode cX11_drop 14 = .ok (.ireturn, 1) := by decide +kernel
theorem dX11_drop_15 : decode cX11_drop 15 = .ok (.aload_n 0, 1) := by decide +kernel
theorem dX11_drop_16 : decode cX11_drop 16 = .ok (.iload_n 1, 1) := by decide +kernel
theorem dX11_drop_17 : decode cX11_drop 17 = .ok (.invokevirtual 396, 3) := by decide +kernel
theorem dX11_drop_20 : decode cX11_drop 20 = .ok (.aload_n 0, 1) := by decide +kernel
theorem dX11_drop_21 : decode cX11_drop 21 = .ok (.getfield 191, 3) := by decide +kernel
theorem dX11_drop_24 : decode cX11_drop 24 = .ok (.ireturn, 1) := by decide +kernel
set_option maxRecDepth 20000 in
theorem ggX11_tet_X11_isTet : GoodIn wsX11_tet wsX11_isTet := goodIn_r _ [7, 8, 38, 39, 40, 41, 42, 43, 44, 45, 46, 47, 48, 49, 50, 51, 52, 53, 54, 55, 56, 57, 58, 59, 60, 61, 62, 63, 64, 65, 66, 67, 68, 69, 70, 71, 72, 73, 74, 75, 76, 77, 78, 79, 80, 81, 82, 83, 84, 85, 86, 87, 88, 89] (by decide +kernel) (by decide +kernel)
set_option maxRecDepth 20000 in
theorem gX11_tet_X11_isTet : GoodIn wsX11_tet (wsV RX11 295 RX11 yX11_isTet wsX11_isTet) := goodIn_app (goodIn_of _ (by decide +kernel)) ggX11_tet_X11_isTet
set_option maxRecDepth 20000 in
theorem ggX11_tet_X11_isIn : GoodIn wsX11_tet wsX11_isIn := goodIn_r _ [11] (by decide +kernel) (by decide +kernel)
set_option maxRecDepth 20000 in
theorem gX11_tet_X11_isIn : GoodIn wsX11_tet (va_wsS RX11 303 yX11_isIn wsX11_isIn) := goodIn_app (goodIn_of _ (by decide +kernel)) ggX11_tet_X11_isIn
set_option maxRecDepth 20000 in
theorem ggX11_tet_X11_six : GoodIn wsX11_tet wsX11_six := goodIn_r _ [15, 16, 17, 18, 19, 20, 21, 22, 6, 23, 24, 25, 26, 27, 28, 29, 30, 31, 2, 32, 33, 34, 35, 36, 37, 38, 39, 40, 41, 42, 43, 44, 45, 46, 47, 48, 49, 50, 51, 52, 53, 54, 55, 56, 57, 58, 59, 60, 61, 62, 63, 64, 65, 66, 67, 68, 69, 70, 71, 72, 73, 74, 75, 76, 77, 78, 79, 80, 81, 82, 83, 84, 85, 86, 87, 88, 89] (by decide +kernel) (by decide +kernel)
set_option maxRecDepth 20000 in
theorem gX11_tet_X11_six : GoodIn wsX11_tet (wsV RX11 261 RX11 yX11_six wsX11_six) := goodIn_app (goodIn_of _ (by decide +kernel)) ggX11_tet_X11_six
theorem dX11_tet_0 : decode cX11_tet 0 = .ok (.aload_n 0, 1) := by decide +kernel
theorem dX11_tet_1 : decode cX11_tet 1 = .ok (.aload_n 0, 1) := by decide +kernel
theorem dX11_tet_2 : decode cX11_tet 2 = .ok (.iload_n 1, 1) := by decide +kernel
theorem dX11_tet_3 : decode cX11_tet 3 = .ok (.invokevirtual 295, 3) := by decide +kernel
theorem dX11_tet_6 : decode cX11_tet 6 = .ok (.ifCond .eq 17, 3) := by decide +kernel
theorem dX11_tet_9 : decode cX11_tet 9 = .ok (.iload_n 2, 1) := by decide +kernel
theorem dX11_tet_10 : decode cX11_tet 10 = .ok (.i2l, 1) := by decide +kernel
theorem dX11_tet_11 : decode cX11_tet 11 = .ok (.lconst 0, 1) := by decide +kernel
theorem dX11_tet_12 : decode cX11_tet 12 = .ok (.lconst 1, 1) := by decide +kernel
theorem dX11_tet_13 : decode cX11_tet 13 = .ok (.invokestatic 303, 3) := by decide +kernel
theorem dX11_tet_16 : decode cX11_tet 16 = .ok (.ifCond .eq 7, 3) := by decide +kernel
theorem dX11_tet_19 : decode cX11_tet 19 = .ok (.iconst 0, 1) := by decide +kernel
theorem dX11_tet_20 : decode cX11_tet 20 = .ok (.goto 4, 3) := by decide +kernel
theorem dX11_tet_23 : decode cX11_tet 23 = .ok (.iconst 1, 1) := by decide +kernel
theorem dX11_tet_24 : decode cX11_tet 24 = .ok (.putfield 106, 3) := by decide +kernel
theorem dX11_tet_27 : decode cX11_tet 27 = .ok (.aload_n 0, 1) := by decide +kernel
theorem dX11_tet_28 : decode cX11_tet 28 = .ok (.getfield 106, 3) := by decide +kernel
theorem dX11_tet_31 : decode cX11_tet 31 = .ok (.ifCond .le 5, 3) := by decide +kernel
theorem dX11_tet_34 : decode cX11_tet 34 = .ok (.iconst 0, 1) := by decide +kernel
theorem dX11_tet_35 : decode cX11_tet 35 = .ok (.ireturn, 1) := by decide +kernel
theorem dX11_tet_36 : decode cX11_tet 36 = .ok (.iload_n 2, 1) := by decide +kernel
theorem dX11_tet_37 : decode cX11_tet 37 = .ok (.ifCond .ne 15, 3) := by decide +kernel
theorem dX11_tet_40 : decode cX11_tet 40 = .ok (.aload_n 0, 1) := by decide +kernel
theorem dX11_tet_41 : decode cX11_tet 41 = .ok (.getfield 17, 3) := by decide +kernel
theorem dX11_tet_44 : decode cX11_tet 44 = .ok (.bipush 13, 2) := by decide +kernel
theorem dX11_tet_46 : decode cX11_tet 46 = .ok (.iload_n 1, 1) := by decide +kernel
theorem dX11_tet_47 : decode cX11_tet 47 = .ok (.imul, 1) := by decide +kernel
theorem dX11_tet_48 : decode cX11_tet 48 = .ok (.iaload, 1) := by decide +kernel
theorem dX11_tet_49 : decode cX11_tet 49 = .ok (.goto 8, 3) := by decide +kernel
theorem dX11_tet_52 : decode cX11_tet 52 = .ok (.aload_n 0, 1) := by decide +kernel
theorem dX11_tet_53 : decode cX11_tet 53 = .ok (.iload_n 1, 1) := by decide +kernel
theorem dX11_tet_54 : decode cX11_tet 54 = .ok (.invokevirtual 261, 3) := by decide +kernel
theorem dX11_tet_57 : decode cX11_tet 57 = .ok (.ireturn, 1) := by decide +kernel
set_option maxRecDepth 20000 in
theorem ggX11_corner_X11_isTet : GoodIn wsX11_corner wsX11_isTet := goodIn_r _ [9, 10, 22, 23, 24, 25, 26, 27, 28, 29, 30, 31, 32, 33, 34, 35, 36, 37, 38, 39, 40, 41, 42, 43, 44, 45, 46, 47, 48, 49, 50, 51, 52, 53, 54, 55, 56, 57, 58, 59, 60, 61, 62, 63, 64, 65, 66, 67, 68, 69, 70, 71, 72, 73] (by decide +kernel) (by decide +kernel)
set_option maxRecDepth 20000 in
theorem gX11_corner_X11_isTet : GoodIn wsX11_corner (wsV RX11 295 RX11 yX11_isTet wsX11_isTet) := goodIn_app (goodIn_of _ (by decide +kernel)) ggX11_corner_X11_isTet
set_option maxRecDepth 20000 in
theorem ggX11_corner_X11_isIn : GoodIn wsX11_corner wsX11_isIn := goodIn_r _ [13] (by decide +kernel) (by decide +kernel)
set_option maxRecDepth 20000 in
theorem gX11_corner_X11_isIn : GoodIn wsX11_corner (va_wsS RX11 303 yX11_isIn wsX11_isIn) := goodIn_app (goodIn_of _ (by decide +kernel)) ggX11_corner_X11_isIn
set_option maxRecDepth 20000 in
theorem ggX11_corner_X11_of : GoodIn wsX11_corner wsX11_of := goodIn_r _ [17, 18, 19, 20, 8, 21, 22, 23, 24, 25, 26, 27, 28, 29, 30, 31, 32, 33, 34, 35, 36, 37, 38, 39, 40, 41, 42, 43, 44, 45, 46, 47, 48, 49, 50, 51, 52, 53, 54, 55, 56, 57, 58, 59, 60, 61, 62, 63, 64, 65, 66, 67, 68, 69, 70, 71, 72, 73] (by decide +kernel) (by decide +kernel)
set_option maxRecDepth 20000 in
theorem gX11_corner_X11_of : GoodIn wsX11_corner (wsV RX11 201 RX11 yX11_of wsX11_of) := goodIn_app (goodIn_of _ (by decide +kernel)) ggX11_corner_X11_of
theorem dX11_corner_0 : decode cX11_corner 0 = .ok (.aload_n 0, 1) := by decide +kernel
theorem dX11_corner_1 : decode cX11_corner 1 = .ok (.iconst 0, 1) := by decide +kernel
theorem dX11_corner_2 : decode cX11_corner 2 = .ok (.putfield 106, 3) := by decide +kernel
theorem dX11_corner_5 : decode cX11_corner 5 = .ok (.aload_n 0, 1) := by decide +kernel
theorem dX11_corner_6 : decode cX11_corner 6 = .ok (.iload_n 1, 1) := by decide +kernel
theorem dX11_corner_7 : decode cX11_corner 7 = .ok (.invokevirtual 295, 3) := by decide +kernel
theorem dX11_corner_10 : decode cX11_corner 10 = .ok (.ifCond .eq 37, 3) := by decide +kernel
theorem dX11_corner_13 : decode cX11_corner 13 = .ok (.iload_n 2, 1) := by decide +kernel
theorem dX11_corner_14 : decode cX11_corner 14 = .ok (.i2l, 1) := by decide +kernel
theorem dX11_corner_15 : decode cX11_corner 15 = .ok (.lconst 0, 1) := by decide +kernel
theorem dX11_corner_16 : decode cX11_corner 16 = .ok (.ldc2_w 335, 3) := by decide +kernel
theorem dX11_corner_19 : decode cX11_corner 19 = .ok (.invokestatic 303, 3) := by decide +kernel
theorem dX11_corner_22 : decode cX11_corner 22 = .ok (.ifCond .eq 25, 3) := by decide +kernel
theorem dX11_corner_25 : decode cX11_corner 25 = .ok (.iload_n 3, 1) := by decide +kernel
theorem dX11_corner_26 : decode cX11_corner 26 = .ok (.i2l, 1) := by decide +kernel
theorem dX11_corner_27 : decode cX11_corner 27 = .ok (.lconst 0, 1) := by decide +kernel
theorem dX11_corner_28 : decode cX11_corner 28 = .ok (.ldc2_w 293, 3) := by decide +kernel
theorem dX11_corner_31 : decode cX11_corner 31 = .ok (.invokestatic 303, 3) := by decide +kernel
theorem dX11_corner_34 : decode cX11_corner 34 = .ok (.ifCond .eq 13, 3) := by decide +kernel
theorem dX11_corner_37 : decode cX11_corner 37 = .ok (.aload_n 0, 1) := by decide +kernel
theorem dX11_corner_38 : decode cX11_corner 38 = .ok (.iload_n 1, 1) := by decide +kernel
theorem dX11_corner_39 : decode cX11_corner 39 = .ok (.iload_n 2, 1) := by decide +kernel
theorem dX11_corner_40 : decode cX11_corner 40 = .ok (.iload_n 3, 1) := by decide +kernel
theorem dX11_corner_41 : decode cX11_corner 41 = .ok (.invokevirtual 201, 3) := by decide +kernel
theorem dX11_corner_44 : decode cX11_corner 44 = .ok (.goto 6, 3) := by decide +kernel
theorem dX11_corner_47 : decode cX11_corner 47 = .ok (.ldc_w 307, 3) := by decide +kernel
theorem dX11_corner_50 : decode cX11_corner 50 = .ok (.ireturn, 1) := by decide +kernel
set_option maxRecDepth 20000 in
theorem ggX11_pick_X11_isTet : GoodIn wsX11_pick wsX11_isTet := goodIn_r _ [9, 10, 14, 15, 16, 17, 18, 19, 20, 21, 22, 23, 24, 25, 26, 27, 28, 29, 30, 31, 32, 33, 34, 35, 36, 37, 38, 39, 40, 41, 42, 43, 44, 45, 46, 47, 48, 49, 50, 51, 52, 53, 54, 55, 56, 57, 58, 59, 60, 61, 62, 63, 64, 65] (by decide +kernel) (by decide +kernel)
set_option maxRecDepth 20000 in
theorem gX11_pick_X11_isTet : GoodIn wsX11_pick (wsV RX11 295 RX11 yX11_isTet wsX11_isTet) := goodIn_app (goodIn_of _ (by decide +kernel)) ggX11_pick_X11_isTet
set_option maxRecDepth 20000 in
theorem ggX11_pick_X11_isEdge : GoodIn wsX11_pick wsX11_isEdge := goodIn_r _ [13] (by decide +kernel) (by decide +kernel)
set_option maxRecDepth 20000 in
theorem gX11_pick_X11_isEdge : GoodIn wsX11_pick (va_wsS RX11 298 yX11_isEdge wsX11_isEdge) := goodIn_app (goodIn_of _ (by decide +kernel)) ggX11_pick_X11_isEdge
theorem dX11_pick_0 : decode cX11_pick 0 = .ok (.aload_n 0, 1) := by decide +kernel
theorem dX11_pick_1 : decode cX11_pick 1 = .ok (.iconst 0, 1) := by decide +kernel
theorem dX11_pick_2 : decode cX11_pick 2 = .ok (.putfield 106, 3) := by decide +kernel
theorem dX11_pick_5 : decode cX11_pick 5 = .ok (.aload_n 0, 1) := by decide +kernel
theorem dX11_pick_6 : decode cX11_pick 6 = .ok (.iload_n 1, 1) := by decide +kernel
theorem dX11_pick_7 : decode cX11_pick 7 = .ok (.invokevirtual 295, 3) := by decide +kernel
theorem dX11_pick_10 : decode cX11_pick 10 = .ok (.ifCond .eq 10, 3) := by decide +kernel
theorem dX11_pick_13 : decode cX11_pick 13 = .ok (.iload_n 2, 1) := by decide +kernel
theorem dX11_pick_14 : decode cX11_pick 14 = .ok (.invokestatic 298, 3) := by decide +kernel
theorem dX11_pick_17 : decode cX11_pick 17 = .ok (.ifCond .ne 5, 3) := by decide +kernel
theorem dX11_pick_20 : decode cX11_pick 20 = .ok (.iconst (-1), 1) := by decide +kernel
theorem dX11_pick_21 : decode cX11_pick 21 = .ok (.ireturn, 1) := by decide +kernel
theorem dX11_pick_22 : decode cX11_pick 22 = .ok (.aload_n 0, 1) := by decide +kernel
theorem dX11_pick_23 : decode cX11_pick 23 = .ok (.getfield 194, 3) := by decide +kernel
theorem dX11_pick_26 : decode cX11_pick 26 = .ok (.bipush 6, 2) := by decide +kernel
theorem dX11_pick_28 : decode cX11_pick 28 = .ok (.if_icmp .ne 6, 3) := by decide +kernel
theorem dX11_pick_31 : decode cX11_pick 31 = .ok (.bipush (-3), 2) := by decide +kernel
theorem dX11_pick_33 : decode cX11_pick 33 = .ok (.ireturn, 1) := by decide +kernel
theorem dX11_pick_34 : decode cX11_pick 34 = .ok (.aload_n 0, 1) := by decide +kernel
theorem dX11_pick_35 : decode cX11_pick 35 = .ok (.getfield 53, 3) := by decide +kernel
theorem dX11_pick_38 : decode cX11_pick 38 = .ok (.aload_n 0, 1) := by decide +kernel
theorem dX11_pick_39 : decode cX11_pick 39 = .ok (.getfield 194, 3) := by decide +kernel
theorem dX11_pick_42 : decode cX11_pick 42 = .ok (.iload_n 1, 1) := by decide +kernel
theorem dX11_pick_43 : decode cX11_pick 43 = .ok (.iastore, 1) := by decide +kernel
theorem dX11_pick_44 : decode cX11_pick 44 = .ok (.aload_n 0, 1) := by decide +kernel
theorem dX11_pick_45 : decode cX11_pick 45 = .ok (.getfield 56, 3) := by decide +kernel
theorem dX11_pick_48 : decode cX11_pick 48 = .ok (.aload_n 0, 1) := by decide +kernel
theorem dX11_pick_49 : decode cX11_pick 49 = .ok (.getfield 194, 3) := by decide +kernel
theorem dX11_pick_52 : decode cX11_pick 52 = .ok (.iload_n 2, 1) := by decide +kernel
theorem dX11_pick_53 : decode cX11_pick 53 = .ok (.iastore, 1) := by decide +kernel
theorem dX11_pick_54 : decode cX11_pick 54 = .ok (.aload_n 0, 1) := by decide +kernel
theorem dX11_pick_55 : decode cX11_pick 55 = .ok (.dup, 1) := by decide +kernel
theorem dX11_pick_56 : decode cX11_pick 56 = .ok (.getfield 194, 3) := by decide +kernel
theorem dX11_pick_59 : decode cX11_pick 59 = .ok (.iconst 1, 1) := by decide +kernel
theorem dX11_pick_60 : decode cX11_pick 60 = .ok (.iadd, 1) := by decide +kernel
theorem dX11_pick_61 : decode cX11_pick 61 = .ok (.putfield 194, 3) := by decide +kernel
theorem dX11_pick_64 : decode cX11_pick 64 = .ok (.aload_n 0, 1) := by decide +kernel
theorem dX11_pick_65 : decode cX11_pick 65 = .ok (.getfield 194, 3) := by decide +kernel
theorem dX11_pick_68 : decode cX11_pick 68 = .ok (.ireturn, 1) := by decide +kernel
theorem dX11_unpick_0 : decode cX11_unpick 0 = .ok (.aload_n 0, 1) := by decide +kernel
theorem dX11_unpick_1 : decode cX11_unpick 1 = .ok (.iconst 0, 1) := by decide +kernel
theorem dX11_unpick_2 : decode cX11_unpick 2 = .ok (.putfield 106, 3) := by decide +kernel
theorem dX11_unpick_5 : decode cX11_unpick 5 = .ok (.aload_n 0, 1) := by decide +kernel
theorem dX11_unpick_6 : decode cX11_unpick 6 = .ok (.getfield 194, 3) := by decide +kernel
theorem dX11_unpick_9 : decode cX11_unpick 9 = .ok (.istore_n 1, 1) := by decide +kernel
theorem dX11_unpick_10 : decode cX11_unpick 10 = .ok (.aload_n 0, 1) := by decide +kernel
theorem dX11_unpick_11 : decode cX11_unpick 11 = .ok (.iconst 0, 1) := by decide +kernel
theorem dX11_unpick_12 : decode cX11_unpick 12 = .ok (.putfield 194, 3) := by decide +kernel
theorem dX11_unpick_15 : decode cX11_unpick 15 = .ok (.iload_n 1, 1) := by decide +kernel
theorem dX11_unpick_16 : decode cX11_unpick 16 = .ok (.ireturn, 1) := by decide +kernel
set_option maxRecDepth 20000 in
theorem ggX11_det__X11_det_ : GoodIn wsX11_det_ wsX11_det_ := goodIn_r _ [0, 1, 2, 3, 4, 5, 6, 7, 8, 9, 10, 11, 12, 13, 14, 15, 16, 17, 18, 19, 20, 21, 22, 23, 24, 25, 26, 27, 28, 29, 30, 31, 32, 33, 34, 35, 36, 37, 38, 39, 40, 41, 42, 43, 44, 45, 46, 47, 48, 49, 50, 51, 52, 53, 54, 55, 56, 57] (by decide +kernel) (by decide +kernel)
set_option maxRecDepth 20000 in
theorem gX11_det__X11_det_ : GoodIn wsX11_det_ (wsV RX11 405 RX11 yX11_det_ wsX11_det_) := goodIn_app (goodIn_of _ (by decide +kernel)) ggX11_det__X11_det_
theorem dX11_det__0 : decode cX11_det_ 0 = .ok (.iload_n 2, 1) := by decide +kernel
theorem dX11_det__1 : decode cX11_det_ 1 = .ok (.iload_n 1, 1) := by decide +kernel
theorem dX11_det__2 : decode cX11_det_ 2 = .ok (.if_icmp .ne 5, 3) := by decide +kernel
theorem dX11_det__5 : decode cX11_det_ 5 = .ok (.lconst 1, 1) := by decide +kernel
theorem dX11_det__6 : decode cX11_det_ 6 = .ok (.lreturn, 1) := by decide +kernel
theorem dX11_det__7 : decode cX11_det_ 7 = .ok (.lconst 0, 1) := by decide +kernel
theorem dX11_det__8 : decode cX11_det_ 8 = .ok (.lstore 4, 2) := by decide +kernel
theorem dX11_det__10 : decode cX11_det_ 10 = .ok (.iconst 1, 1) := by decide +kernel
theorem dX11_det__11 : decode cX11_det_ 11 = .ok (.istore 6, 2) := by decide +kernel
theorem dX11_det__13 : decode cX11_det_ 13 = .ok (.iconst 0, 1) := by decide +kernel
theorem dX11_det__14 : decode cX11_det_ 14 = .ok (.istore 7, 2) := by decide +kernel
theorem dX11_det__16 : decode cX11_det_ 16 = .ok (.iload 7, 2) := by decide +kernel
theorem dX11_det__18 : decode cX11_det_ 18 = .ok (.iload_n 1, 1) := by decide +kernel
theorem dX11_det__19 : decode cX11_det_ 19 = .ok (.if_icmp .ge 75, 3) := by decide +kernel
theorem dX11_det__22 : decode cX11_det_ 22 = .ok (.iload_n 3, 1) := by decide +kernel
theorem dX11_det__23 : decode cX11_det_ 23 = .ok (.iload 7, 2) := by decide +kernel
theorem dX11_det__25 : decode cX11_det_ 25 = .ok (.ishr, 1) := by decide +kernel
theorem dX11_det__26 : decode cX11_det_ 26 = .ok (.iconst 1, 1) := by decide +kernel
theorem dX11_det__27 : decode cX11_det_ 27 = .ok (.iand, 1) := by decide +kernel
theorem dX11_det__28 : decode cX11_det_ 28 = .ok (.ifCond .ne 6, 3) := by decide +kernel
theorem dX11_det__31 : decode cX11_det_ 31 = .ok (.goto 57, 3) := by decide +kernel
theorem dX11_det__34 : decode cX11_det_ 34 = .ok (.aload_n 0, 1) := by decide +kernel
theorem dX11_det__35 : decode cX11_det_ 35 = .ok (.getfield 71, 3) := by decide +kernel
theorem dX11_det__38 : decode cX11_det_ 38 = .ok (.bipush 6, 2) := by decide +kernel
theorem dX11_det__40 : decode cX11_det_ 40 = .ok (.iload_n 2, 1) := by decide +kernel
theorem dX11_det__41 : decode cX11_det_ 41 = .ok (.imul, 1) := by decide +kernel
theorem dX11_det__42 : decode cX11_det_ 42 = .ok (.iload 7, 2) := by decide +kernel
theorem dX11_det__44 : decode cX11_det_ 44 = .ok (.iadd, 1) := by decide +kernel
theorem dX11_det__45 : decode cX11_det_ 45 = .ok (.laload, 1) := by decide +kernel
theorem dX11_det__46 : decode cX11_det_ 46 = .ok (.lstore 8, 2) := by decide +kernel
theorem dX11_det__48 : decode cX11_det_ 48 = .ok (.lload 8, 2) := by decide +kernel
theorem dX11_det__50 : decode cX11_det_ 50 = .ok (.lconst 0, 1) := by decide +kernel
theorem dX11_det__51 : decode cX11_det_ 51 = .ok (.lcmp, 1) := by decide +kernel
theorem dX11_det__52 : decode cX11_det_ 52 = .ok (.ifCond .eq 31, 3) := by decide +kernel
theorem dX11_det__55 : decode cX11_det_ 55 = .ok (.lload 4, 2) := by decide +kernel
theorem dX11_det__57 : decode cX11_det_ 57 = .ok (.iload 6, 2) := by decide +kernel
theorem dX11_det__59 : decode cX11_det_ 59 = .ok (.i2l, 1) := by decide +kernel
theorem dX11_det__60 : decode cX11_det_ 60 = .ok (.lload 8, 2) := by decide +kernel
theorem dX11_det__62 : decode cX11_det_ 62 = .ok (.lmul, 1) := by decide +kernel
theorem dX11_det__63 : decode cX11_det_ 63 = .ok (.aload_n 0, 1) := by decide +kernel
theorem dX11_det__64 : decode cX11_det_ 64 = .ok (.iload_n 1, 1) := by decide +kernel
theorem dX11_det__65 : decode cX11_det_ 65 = .ok (.iload_n 2, 1) := by decide +kernel
theorem dX11_det__66 : decode cX11_det_ 66 = .ok (.iconst 1, 1) := by decide +kernel
theorem dX11_det__67 : decode cX11_det_ 67 = .ok (.iadd, 1) := by decide +kernel
theorem dX11_det__68 : decode cX11_det_ 68 = .ok (.iload_n 3, 1) := by decide +kernel
theorem dX11_det__69 : decode cX11_det_ 69 = .ok (.iconst 1, 1) := by decide +kernel
theorem dX11_det__70 : decode cX11_det_ 70 = .ok (.iload 7, 2) := by decide +kernel
theorem dX11_det__72 : decode cX11_det_ 72 = .ok (.ishl, 1) := by decide +kernel
theorem dX11_det__73 : decode cX11_det_ 73 = .ok (.iconst (-1), 1) := by decide +kernel
theorem dX11_det__74 : decode cX11_det_ 74 = .ok (.ixor, 1) := by decide +kernel
theorem dX11_det__75 : decode cX11_det_ 75 = .ok (.iand, 1) := by decide +kernel
theorem dX11_det__76 : decode cX11_det_ 76 = .ok (.invokevirtual 405, 3) := by decide +kernel
theorem dX11_det__79 : decode cX11_det_ 79 = .ok (.lmul, 1) := by decide +kernel
theorem dX11_det__80 : decode cX11_det_ 80 = .ok (.ladd, 1) := by decide +kernel
theorem dX11_det__81 : decode cX11_det_ 81 = .ok (.lstore 4, 2) := by decide +kernel
theorem dX11_det__83 : decode cX11_det_ 83 = .ok (.iload 6, 2) := by decide +kernel
theorem dX11_det__85 : decode cX11_det_ 85 = .ok (.ineg, 1) := by decide +kernel
theorem dX11_det__86 : decode cX11_det_ 86 = .ok (.istore 6, 2) := by decide +kernel
theorem dX11_det__88 : decode cX11_det_ 88 = .ok (.iinc 7 1, 3) := by decide +kernel
theorem dX11_det__91 : decode cX11_det_ 91 = .ok (.goto (-75), 3) := by decide +kernel
theorem dX11_det__94 : decode cX11_det_ 94 = .ok (.lload 4, 2) := by decide +kernel
theorem dX11_det__96 : decode cX11_det_ 96 = .ok (.lreturn, 1) := by decide +kernel
set_option maxRecDepth 20000 in
theorem ggX11_detOf_X11_amountOf : GoodIn wsX11_detOf wsX11_amountOf := goodIn_r _ [10, 11, 12, 13, 14, 15, 20, 21, 22, 23, 24, 25, 26, 27, 28, 29, 30, 31, 32, 33, 34, 35, 36, 37, 38, 39, 40, 41, 42, 43, 44, 45, 46, 47, 48, 49, 50, 51, 52, 53, 54, 55, 56, 57, 58, 59, 60, 61, 62, 63, 64, 65, 66, 67, 68, 69, 70, 71] (by decide +kernel) (by decide +kernel)
set_option maxRecDepth 20000 in
theorem gX11_detOf_X11_amountOf : GoodIn wsX11_detOf (wsV RX11 350 RX11 yX11_amountOf wsX11_amountOf) := goodIn_app (goodIn_of _ (by decide +kernel)) ggX11_detOf_X11_amountOf
set_option maxRecDepth 20000 in
theorem ggX11_detOf_X11_det_ : GoodIn wsX11_detOf wsX11_det_ := goodIn_r _ [19, 1, 16, 17, 18, 9, 20, 21, 22, 23, 24, 25, 26, 27, 28, 29, 30, 31, 32, 33, 34, 35, 36, 37, 38, 39, 40, 41, 42, 43, 44, 45, 46, 47, 48, 49, 50, 51, 52, 53, 54, 55, 56, 57, 58, 59, 60, 61, 62, 63, 64, 65, 66, 67, 68, 69, 70, 71] (by decide +kernel) (by decide +kernel)
set_option maxRecDepth 20000 in
theorem gX11_detOf_X11_det_ : GoodIn wsX11_detOf (wsV RX11 405 RX11 yX11_det_ wsX11_det_) := goodIn_app (goodIn_of _ (by decide +kernel)) ggX11_detOf_X11_det_
theorem dX11_detOf_0 : decode cX11_detOf 0 = .ok (.iconst 0, 1) := by decide +kernel
theorem dX11_detOf_1 : decode cX11_detOf 1 = .ok (.istore 4, 2) := by decide +kernel
theorem dX11_detOf_3 : decode cX11_detOf 3 = .ok (.iload 4, 2) := by decide +kernel
theorem dX11_detOf_5 : decode cX11_detOf 5 = .ok (.iload_n 1, 1) := by decide +kernel
theorem dX11_detOf_6 : decode cX11_detOf 6 = .ok (.if_icmp .ge 89, 3) := by decide +kernel
theorem dX11_detOf_9 : decode cX11_detOf 9 = .ok (.iconst 0, 1) := by decide +kernel
theorem dX11_detOf_10 : decode cX11_detOf 10 = .ok (.istore 5, 2) := by decide +kernel
theorem dX11_detOf_12 : decode cX11_detOf 12 = .ok (.iload 5, 2) := by decide +kernel
theorem dX11_detOf_14 : decode cX11_detOf 14 = .ok (.iload_n 1, 1) := by decide +kernel
theorem dX11_detOf_15 : decode cX11_detOf 15 = .ok (.if_icmp .ge 74, 3) := by decide +kernel
theorem dX11_detOf_18 : decode cX11_detOf 18 = .ok (.aload_n 0, 1) := by decide +kernel
theorem dX11_detOf_19 : decode cX11_detOf 19 = .ok (.getfield 71, 3) := by decide +kernel
theorem dX11_detOf_22 : decode cX11_detOf 22 = .ok (.bipush 6, 2) := by decide +kernel
theorem dX11_detOf_24 : decode cX11_detOf 24 = .ok (.iload 4, 2) := by decide +kernel
theorem dX11_detOf_26 : decode cX11_detOf 26 = .ok (.imul, 1) := by decide +kernel
theorem dX11_detOf_27 : decode cX11_detOf 27 = .ok (.iload 5, 2) := by decide +kernel
theorem dX11_detOf_29 : decode cX11_detOf 29 = .ok (.iadd, 1) := by decide +kernel
theorem dX11_detOf_30 : decode cX11_detOf 30 = .ok (.iload 5, 2) := by decide +kernel
theorem dX11_detOf_32 : decode cX11_detOf 32 = .ok (.aload_n 0, 1) := by decide +kernel
theorem dX11_detOf_33 : decode cX11_detOf 33 = .ok (.getfield 408, 3) := by decide +kernel
theorem dX11_detOf_36 : decode cX11_detOf 36 = .ok (.if_icmp .ge 32, 3) := by decide +kernel
theorem dX11_detOf_39 : decode cX11_detOf 39 = .ok (.aload_n 0, 1) := by decide +kernel
theorem dX11_detOf_40 : decode cX11_detOf 40 = .ok (.aload_n 0, 1) := by decide +kernel
theorem dX11_detOf_41 : decode cX11_detOf 41 = .ok (.getfield 68, 3) := by decide +kernel
theorem dX11_detOf_44 : decode cX11_detOf 44 = .ok (.iload 4, 2) := by decide +kernel
theorem dX11_detOf_46 : decode cX11_detOf 46 = .ok (.iaload, 1) := by decide +kernel
theorem dX11_detOf_47 : decode cX11_detOf 47 = .ok (.aload_n 0, 1) := by decide +kernel
theorem dX11_detOf_48 : decode cX11_detOf 48 = .ok (.getfield 62, 3) := by decide +kernel
theorem dX11_detOf_51 : decode cX11_detOf 51 = .ok (.iload 5, 2) := by decide +kernel
theorem dX11_detOf_53 : decode cX11_detOf 53 = .ok (.iaload, 1) := by decide +kernel
theorem dX11_detOf_54 : decode cX11_detOf 54 = .ok (.aload_n 0, 1) := by decide +kernel
theorem dX11_detOf_55 : decode cX11_detOf 55 = .ok (.getfield 65, 3) := by decide +kernel
theorem dX11_detOf_58 : decode cX11_detOf 58 = .ok (.iload 5, 2) := by decide +kernel
theorem dX11_detOf_60 : decode cX11_detOf 60 = .ok (.iaload, 1) := by decide +kernel
theorem dX11_detOf_61 : decode cX11_detOf 61 = .ok (.invokevirtual 350, 3) := by decide +kernel
theorem dX11_detOf_64 : decode cX11_detOf 64 = .ok (.i2l, 1) := by decide +kernel
theorem dX11_detOf_65 : decode cX11_detOf 65 = .ok (.goto 17, 3) := by decide +kernel
theorem dX11_detOf_68 : decode cX11_detOf 68 = .ok (.aload_n 0, 1) := by decide +kernel
theorem dX11_detOf_69 : decode cX11_detOf 69 = .ok (.aload_n 0, 1) := by decide +kernel
theorem dX11_detOf_70 : decode cX11_detOf 70 = .ok (.getfield 68, 3) := by decide +kernel
theorem dX11_detOf_73 : decode cX11_detOf 73 = .ok (.iload 4, 2) := by decide +kernel
theorem dX11_detOf_75 : decode cX11_detOf 75 = .ok (.iaload, 1) := by decide +kernel
theorem dX11_detOf_76 : decode cX11_detOf 76 = .ok (.iload_n 2, 1) := by decide +kernel
theorem dX11_detOf_77 : decode cX11_detOf 77 = .ok (.iload_n 3, 1) := by decide +kernel
theorem dX11_detOf_78 : decode cX11_detOf 78 = .ok (.invokevirtual 350, 3) := by decide +kernel
theorem dX11_detOf_81 : decode cX11_detOf 81 = .ok (.i2l, 1) := by decide +kernel
theorem dX11_detOf_82 : decode cX11_detOf 82 = .ok (.lastore, 1) := by decide +kernel
theorem dX11_detOf_83 : decode cX11_detOf 83 = .ok (.iinc 5 1, 3) := by decide +kernel
theorem dX11_detOf_86 : decode cX11_detOf 86 = .ok (.goto (-74), 3) := by decide +kernel
theorem dX11_detOf_89 : decode cX11_detOf 89 = .ok (.iinc 4 1, 3) := by decide +kernel
theorem dX11_detOf_92 : decode cX11_detOf 92 = .ok (.goto (-89), 3) := by decide +kernel
theorem dX11_detOf_95 : decode cX11_detOf 95 = .ok (.aload_n 0, 1) := by decide +kernel
theorem dX11_detOf_96 : decode cX11_detOf 96 = .ok (.iload_n 1, 1) := by decide +kernel
theorem dX11_detOf_97 : decode cX11_detOf 97 = .ok (.iconst 0, 1) := by decide +kernel
theorem dX11_detOf_98 : decode cX11_detOf 98 = .ok (.iconst 1, 1) := by decide +kernel
theorem dX11_detOf_99 : decode cX11_detOf 99 = .ok (.iload_n 1, 1) := by decide +kernel
theorem dX11_detOf_100 : decode cX11_detOf 100 = .ok (.ishl, 1) := by decide +kernel
theorem dX11_detOf_101 : decode cX11_detOf 101 = .ok (.iconst 1, 1) := by decide +kernel
theorem dX11_detOf_102 : decode cX11_detOf 102 = .ok (.isub, 1) := by decide +kernel
theorem dX11_detOf_103 : decode cX11_detOf 103 = .ok (.invokevirtual 405, 3) := by decide +kernel
theorem dX11_detOf_106 : decode cX11_detOf 106 = .ok (.lreturn, 1) := by decide +kernel
set_option maxRecDepth 20000 in
theorem ggX11_hangs_X11_detOf : GoodIn wsX11_hangs wsX11_detOf := goodIn_r _ [14, 15, 1, 2, 8, 9, 16, 17, 18, 13, 19, 4, 5, 6, 7, 20, 21, 22, 23, 24, 25, 26, 27, 28, 29, 30, 31, 32, 33, 34, 35, 36, 37, 38, 39, 40, 41, 42, 43, 44, 45, 46, 47, 48, 49, 50, 51, 52, 53, 54, 55, 56, 57, 58, 59, 60, 61, 62, 63, 64, 65, 66, 67, 68, 69, 70, 71, 72, 73, 74, 75, 76] (by decide +kernel) (by decide +kernel)
set_option maxRecDepth 20000 in
theorem gX11_hangs_X11_detOf : GoodIn wsX11_hangs (wsV RX11 411 RX11 yX11_detOf wsX11_detOf) := goodIn_app (goodIn_of _ (by decide +kernel)) ggX11_hangs_X11_detOf
theorem dX11_hangs_0 : decode cX11_hangs 0 = .ok (.iconst 0, 1) := by decide +kernel
theorem dX11_hangs_1 : decode cX11_hangs 1 = .ok (.istore_n 3, 1) := by decide +kernel
theorem dX11_hangs_2 : decode cX11_hangs 2 = .ok (.iload_n 3, 1) := by decide +kernel
theorem dX11_hangs_3 : decode cX11_hangs 3 = .ok (.aload_n 0, 1) := by decide +kernel
theorem dX11_hangs_4 : decode cX11_hangs 4 = .ok (.getfield 408, 3) := by decide +kernel
theorem dX11_hangs_7 : decode cX11_hangs 7 = .ok (.if_icmp .ge 21, 3) := by decide +kernel
theorem dX11_hangs_10 : decode cX11_hangs 10 = .ok (.aload_n 0, 1) := by decide +kernel
theorem dX11_hangs_11 : decode cX11_hangs 11 = .ok (.getfield 68, 3) := by decide +kernel
theorem dX11_hangs_14 : decode cX11_hangs 14 = .ok (.iload_n 3, 1) := by decide +kernel
theorem dX11_hangs_15 : decode cX11_hangs 15 = .ok (.aload_n 0, 1) := by decide +kernel
theorem dX11_hangs_16 : decode cX11_hangs 16 = .ok (.getfield 59, 3) := by decide +kernel
theorem dX11_hangs_19 : decode cX11_hangs 19 = .ok (.iload_n 3, 1) := by decide +kernel
theorem dX11_hangs_20 : decode cX11_hangs 20 = .ok (.iaload, 1) := by decide +kernel
theorem dX11_hangs_21 : decode cX11_hangs 21 = .ok (.iastore, 1) := by decide +kernel
theorem dX11_hangs_22 : decode cX11_hangs 22 = .ok (.iinc 3 1, 3) := by decide +kernel
theorem dX11_hangs_25 : decode cX11_hangs 25 = .ok (.goto (-23), 3) := by decide +kernel
theorem dX11_hangs_28 : decode cX11_hangs 28 = .ok (.aload_n 0, 1) := by decide +kernel
theorem dX11_hangs_29 : decode cX11_hangs 29 = .ok (.getfield 68, 3) := by decide +kernel
theorem dX11_hangs_32 : decode cX11_hangs 32 = .ok (.aload_n 0, 1) := by decide +kernel
theorem dX11_hangs_33 : decode cX11_hangs 33 = .ok (.getfield 408, 3) := by decide +kernel
theorem dX11_hangs_36 : decode cX11_hangs 36 = .ok (.iload_n 1, 1) := by decide +kernel
theorem dX11_hangs_37 : decode cX11_hangs 37 = .ok (.iastore, 1) := by decide +kernel
theorem dX11_hangs_38 : decode cX11_hangs 38 = .ok (.iconst 0, 1) := by decide +kernel
theorem dX11_hangs_39 : decode cX11_hangs 39 = .ok (.istore_n 3, 1) := by decide +kernel
theorem dX11_hangs_40 : decode cX11_hangs 40 = .ok (.iload_n 3, 1) := by decide +kernel
theorem dX11_hangs_41 : decode cX11_hangs 41 = .ok (.iload_n 2, 1) := by decide +kernel
theorem dX11_hangs_42 : decode cX11_hangs 42 = .ok (.if_icmp .gt 127, 3) := by decide +kernel
theorem dX11_hangs_45 : decode cX11_hangs 45 = .ok (.aload_n 0, 1) := by decide +kernel
theorem dX11_hangs_46 : decode cX11_hangs 46 = .ok (.getfield 38, 3) := by decide +kernel
theorem dX11_hangs_49 : decode cX11_hangs 49 = .ok (.iload_n 3, 1) := by decide +kernel
theorem dX11_hangs_50 : decode cX11_hangs 50 = .ok (.iaload, 1) := by decide +kernel
theorem dX11_hangs_51 : decode cX11_hangs 51 = .ok (.istore 4, 2) := by decide +kernel
theorem dX11_hangs_53 : decode cX11_hangs 53 = .ok (.iload 4, 2) := by decide +kernel
theorem dX11_hangs_55 : decode cX11_hangs 55 = .ok (.aload_n 0, 1) := by decide +kernel
theorem dX11_hangs_56 : decode cX11_hangs 56 = .ok (.getfield 38, 3) := by decide +kernel
theorem dX11_hangs_59 : decode cX11_hangs 59 = .ok (.iload_n 3, 1) := by decide +kernel
theorem dX11_hangs_60 : decode cX11_hangs 60 = .ok (.iaload, 1) := by decide +kernel
theorem dX11_hangs_61 : decode cX11_hangs 61 = .ok (.aload_n 0, 1) := by decide +kernel
theorem dX11_hangs_62 : decode cX11_hangs 62 = .ok (.getfield 41, 3) := by decide +kernel
theorem dX11_hangs_65 : decode cX11_hangs 65 = .ok (.iload_n 3, 1) := by decide +kernel
theorem dX11_hangs_66 : decode cX11_hangs 66 = .ok (.iaload, 1) := by decide +kernel
theorem dX11_hangs_67 : decode cX11_hangs 67 = .ok (.iadd, 1) := by decide +kernel
theorem dX11_hangs_68 : decode cX11_hangs 68 = .ok (.if_icmp .ge 95, 3) := by decide +kernel
theorem dX11_hangs_71 : decode cX11_hangs 71 = .ok (.aload_n 0, 1) := by decide +kernel
theorem dX11_hangs_72 : decode cX11_hangs 72 = .ok (.aload_n 0, 1) := by decide +kernel
theorem dX11_hangs_73 : decode cX11_hangs 73 = .ok (.getfield 408, 3) := by decide +kernel
theorem dX11_hangs_76 : decode cX11_hangs 76 = .ok (.iconst 1, 1) := by decide +kernel
theorem dX11_hangs_77 : decode cX11_hangs 77 = .ok (.iadd, 1) := by decide +kernel
theorem dX11_hangs_78 : decode cX11_hangs 78 = .ok (.aload_n 0, 1) := by decide +kernel
theorem dX11_hangs_79 : decode cX11_hangs 79 = .ok (.getfield 29, 3) := by decide +kernel
theorem dX11_hangs_82 : decode cX11_hangs 82 = .ok (.iload 4, 2) := by decide +kernel
theorem dX11_hangs_84 : decode cX11_hangs 84 = .ok (.iaload, 1) := by decide +kernel
theorem dX11_hangs_85 : decode cX11_hangs 85 = .ok (.aload_n 0, 1) := by decide +kernel
theorem dX11_hangs_86 : decode cX11_hangs 86 = .ok (.getfield 32, 3) := by decide +kernel
theorem dX11_hangs_89 : decode cX11_hangs 89 = .ok (.iload 4, 2) := by decide +kernel
theorem dX11_hangs_91 : decode cX11_hangs 91 = .ok (.iaload, 1) := by decide +kernel
theorem dX11_hangs_92 : decode cX11_hangs 92 = .ok (.invokevirtual 411, 3) := by decide +kernel
theorem dX11_hangs_95 : decode cX11_hangs 95 = .ok (.lconst 0, 1) := by decide +kernel
theorem dX11_hangs_96 : decode cX11_hangs 96 = .ok (.lcmp, 1) := by decide +kernel
theorem dX11_hangs_97 : decode cX11_hangs 97 = .ok (.ifCond .ne 6, 3) := by decide +kernel
theorem dX11_hangs_100 : decode cX11_hangs 100 = .ok (.goto 57, 3) := by decide +kernel
theorem dX11_hangs_103 : decode cX11_hangs 103 = .ok (.aload_n 0, 1) := by decide +kernel
theorem dX11_hangs_104 : decode cX11_hangs 104 = .ok (.getfield 59, 3) := by decide +kernel
theorem dX11_hangs_107 : decode cX11_hangs 107 = .ok (.aload_n 0, 1) := by decide +kernel
theorem dX11_hangs_108 : decode cX11_hangs 108 = .ok (.getfield 408, 3) := by decide +kernel
theorem dX11_hangs_111 : decode cX11_hangs 111 = .ok (.iload_n 1, 1) := by decide +kernel
theorem dX11_hangs_112 : decode cX11_hangs 112 = .ok (.iastore, 1) := by decide +kernel
theorem dX11_hangs_113 : decode cX11_hangs 113 = .ok (.aload_n 0, 1) := by decide +kernel
theorem dX11_hangs_114 : decode cX11_hangs 114 = .ok (.getfield 62, 3) := by decide +kernel
theorem dX11_hangs_117 : decode cX11_hangs 117 = .ok (.aload_n 0, 1) := by decide +kernel
theorem dX11_hangs_118 : decode cX11_hangs 118 = .ok (.getfield 408, 3) := by decide +kernel
theorem dX11_hangs_121 : decode cX11_hangs 121 = .ok (.aload_n 0, 1) := by decide +kernel
theorem dX11_hangs_122 : decode cX11_hangs 122 = .ok (.getfield 29, 3) := by decide +kernel
theorem dX11_hangs_125 : decode cX11_hangs 125 = .ok (.iload 4, 2) := by decide +kernel
theorem dX11_hangs_127 : decode cX11_hangs 127 = .ok (.iaload, 1) := by decide +kernel
theorem dX11_hangs_128 : decode cX11_hangs 128 = .ok (.iastore, 1) := by decide +kernel
theorem dX11_hangs_129 : decode cX11_hangs 129 = .ok (.aload_n 0, 1) := by decide +kernel
theorem dX11_hangs_130 : decode cX11_hangs 130 = .ok (.getfield 65, 3) := by decide +kernel
theorem dX11_hangs_133 : decode cX11_hangs 133 = .ok (.aload_n 0, 1) := by decide +kernel
theorem dX11_hangs_134 : decode cX11_hangs 134 = .ok (.getfield 408, 3) := by decide +kernel
theorem dX11_hangs_137 : decode cX11_hangs 137 = .ok (.aload_n 0, 1) := by decide +kernel
theorem dX11_hangs_138 : decode cX11_hangs 138 = .ok (.getfield 32, 3) := by decide +kernel
theorem dX11_hangs_141 : decode cX11_hangs 141 = .ok (.iload 4, 2) := by decide +kernel
theorem dX11_hangs_143 : decode cX11_hangs 143 = .ok (.iaload, 1) := by decide +kernel
theorem dX11_hangs_144 : decode cX11_hangs 144 = .ok (.iastore, 1) := by decide +kernel
theorem dX11_hangs_145 : decode cX11_hangs 145 = .ok (.aload_n 0, 1) := by decide +kernel
theorem dX11_hangs_146 : decode cX11_hangs 146 = .ok (.dup, 1) := by decide +kernel
theorem dX11_hangs_147 : decode cX11_hangs 147 = .ok (.getfield 408, 3) := by decide +kernel
theorem dX11_hangs_150 : decode cX11_hangs 150 = .ok (.iconst 1, 1) := by decide +kernel
theorem dX11_hangs_151 : decode cX11_hangs 151 = .ok (.iadd, 1) := by decide +kernel
theorem dX11_hangs_152 : decode cX11_hangs 152 = .ok (.putfield 408, 3) := by decide +kernel
theorem dX11_hangs_155 : decode cX11_hangs 155 = .ok (.iconst 0, 1) := by decide +kernel
theorem dX11_hangs_156 : decode cX11_hangs 156 = .ok (.ireturn, 1) := by decide +kernel
theorem dX11_hangs_157 : decode cX11_hangs 157 = .ok (.iinc 4 1, 3) := by decide +kernel
theorem dX11_hangs_160 : decode cX11_hangs 160 = .ok (.goto (-107), 3) := by decide +kernel
theorem dX11_hangs_163 : decode cX11_hangs 163 = .ok (.iinc 3 1, 3) := by decide +kernel
theorem dX11_hangs_166 : decode cX11_hangs 166 = .ok (.goto (-126), 3) := by decide +kernel
theorem dX11_hangs_169 : decode cX11_hangs 169 = .ok (.iconst 1, 1) := by decide +kernel
theorem dX11_hangs_170 : decode cX11_hangs 170 = .ok (.ireturn, 1) := by decide +kernel
set_option maxRecDepth 20000 in
theorem ggX11_rankOfRows_X11_hangs : GoodIn wsX11_rankOfRows wsX11_hangs := goodIn_r _ [6, 1, 7, 8, 9, 10, 11, 12, 13, 14, 15, 16, 17, 5, 18, 19, 20, 21, 22, 23, 24, 25, 26, 27, 28, 29, 30, 31, 32, 33, 34, 35, 36, 37, 38, 39, 40, 41, 42, 43, 44, 45, 46, 47, 48, 49, 50, 51, 52, 53, 54, 55, 56, 57, 58, 59, 60, 61, 62, 63, 64, 65, 66, 67, 68, 69, 70, 71, 72, 73, 74, 75, 76, 77, 78, 79, 80] (by decide +kernel) (by decide +kernel)
set_option maxRecDepth 20000 in
theorem gX11_rankOfRows_X11_hangs : GoodIn wsX11_rankOfRows (wsV RX11 414 RX11 yX11_hangs wsX11_hangs) := goodIn_app (goodIn_of _ (by decide +kernel)) ggX11_rankOfRows_X11_hangs
theorem dX11_rankOfRows_0 : decode cX11_rankOfRows 0 = .ok (.aload_n 0, 1) := by decide +kernel
theorem dX11_rankOfRows_1 : decode cX11_rankOfRows 1 = .ok (.iconst 0, 1) := by decide +kernel
theorem dX11_rankOfRows_2 : decode cX11_rankOfRows 2 = .ok (.putfield 408, 3) := by decide +kernel
theorem dX11_rankOfRows_5 : decode cX11_rankOfRows 5 = .ok (.iconst 0, 1) := by decide +kernel
theorem dX11_rankOfRows_6 : decode cX11_rankOfRows 6 = .ok (.istore_n 2, 1) := by decide +kernel
theorem dX11_rankOfRows_7 : decode cX11_rankOfRows 7 = .ok (.iload_n 2, 1) := by decide +kernel
theorem dX11_rankOfRows_8 : decode cX11_rankOfRows 8 = .ok (.iload_n 1, 1) := by decide +kernel
theorem dX11_rankOfRows_9 : decode cX11_rankOfRows 9 = .ok (.if_icmp .ge 16, 3) := by decide +kernel
theorem dX11_rankOfRows_12 : decode cX11_rankOfRows 12 = .ok (.aload_n 0, 1) := by decide +kernel
theorem dX11_rankOfRows_13 : decode cX11_rankOfRows 13 = .ok (.iload_n 2, 1) := by decide +kernel
theorem dX11_rankOfRows_14 : decode cX11_rankOfRows 14 = .ok (.iload_n 2, 1) := by decide +kernel
theorem dX11_rankOfRows_15 : decode cX11_rankOfRows 15 = .ok (.invokevirtual 414, 3) := by decide +kernel
theorem dX11_rankOfRows_18 : decode cX11_rankOfRows 18 = .ok (.istore_n 3, 1) := by decide +kernel
theorem dX11_rankOfRows_19 : decode cX11_rankOfRows 19 = .ok (.iinc 2 1, 3) := by decide +kernel
theorem dX11_rankOfRows_22 : decode cX11_rankOfRows 22 = .ok (.goto (-15), 3) := by decide +kernel
theorem dX11_rankOfRows_25 : decode cX11_rankOfRows 25 = .ok (.aload_n 0, 1) := by decide +kernel
theorem dX11_rankOfRows_26 : decode cX11_rankOfRows 26 = .ok (.getfield 408, 3) := by decide +kernel
theorem dX11_rankOfRows_29 : decode cX11_rankOfRows 29 = .ok (.ireturn, 1) := by decide +kernel
set_option maxRecDepth 20000 in
theorem ggX11_hasRelation_X11_hangs : GoodIn wsX11_hasRelation wsX11_hangs := goodIn_r _ [9, 1, 3, 4, 10, 11, 12, 13, 14, 15, 16, 17, 18, 8, 19, 20, 21, 22, 23, 24, 25, 26, 27, 28, 29, 33, 34, 35, 36, 37, 38, 39, 40, 41, 42, 43, 44, 45, 46, 47, 48, 49, 50, 51, 52, 53, 54, 55, 56, 57, 58, 59, 60, 61, 62, 63, 64, 65, 66, 67, 68, 69, 70, 71, 72, 73, 74, 75, 76, 77, 78, 79, 80, 81, 82, 83, 84] (by decide +kernel) (by decide +kernel)
set_option maxRecDepth 20000 in
theorem gX11_hasRelation_X11_hangs : GoodIn wsX11_hasRelation (wsV RX11 414 RX11 yX11_hangs wsX11_hangs) := goodIn_app (goodIn_of _ (by decide +kernel)) ggX11_hasRelation_X11_hangs
set_option maxRecDepth 20000 in
theorem ggX11_hasRelation_X11_detOf : GoodIn wsX11_hasRelation wsX11_detOf := goodIn_r _ [19, 20, 1, 3, 14, 15, 21, 22, 23, 8, 24, 10, 11, 12, 13, 25, 26, 27, 28, 29, 33, 34, 35, 36, 37, 38, 39, 40, 41, 42, 43, 44, 45, 46, 47, 48, 49, 50, 51, 52, 53, 54, 55, 56, 57, 58, 59, 60, 61, 62, 63, 64, 65, 66, 67, 68, 69, 70, 71, 72, 73, 74, 75, 76, 77, 78, 79, 80, 81, 82, 83, 84] (by decide +kernel) (by decide +kernel)
set_option maxRecDepth 20000 in
theorem gX11_hasRelation_X11_detOf : GoodIn wsX11_hasRelation (wsV RX11 411 RX11 yX11_detOf wsX11_detOf) := goodIn_app (goodIn_of _ (by decide +kernel)) ggX11_hasRelation_X11_detOf
set_option maxRecDepth 20000 in
theorem ggX11_hasRelation_X11_common : GoodIn wsX11_hasRelation wsX11_common := goodIn_r _ [32] (by decide +kernel) (by decide +kernel)
set_option maxRecDepth 20000 in
theorem gX11_hasRelation_X11_common : GoodIn wsX11_hasRelation (va_wsS RX11 264 yX11_common wsX11_common) := goodIn_app (goodIn_of _ (by decide +kernel)) ggX11_hasRelation_X11_common
theorem dX11_hasRelation_0 : decode cX11_hasRelation 0 = .ok (.aload_n 0, 1) := by decide +kernel
theorem dX11_hasRelation_1 : decode cX11_hasRelation 1 = .ok (.iconst 0, 1) := by decide +kernel
theorem dX11_hasRelation_2 : decode cX11_hasRelation 2 = .ok (.putfield 408, 3) := by decide +kernel
theorem dX11_hasRelation_5 : decode cX11_hasRelation 5 = .ok (.iconst 0, 1) := by decide +kernel
theorem dX11_hasRelation_6 : decode cX11_hasRelation 6 = .ok (.istore_n 2, 1) := by decide +kernel
theorem dX11_hasRelation_7 : decode cX11_hasRelation 7 = .ok (.iload_n 2, 1) := by decide +kernel
theorem dX11_hasRelation_8 : decode cX11_hasRelation 8 = .ok (.iload_n 1, 1) := by decide +kernel
theorem dX11_hasRelation_9 : decode cX11_hasRelation 9 = .ok (.if_icmp .ge 18, 3) := by decide +kernel
theorem dX11_hasRelation_12 : decode cX11_hasRelation 12 = .ok (.aload_n 0, 1) := by decide +kernel
theorem dX11_hasRelation_13 : decode cX11_hasRelation 13 = .ok (.iload_n 2, 1) := by decide +kernel
theorem dX11_hasRelation_14 : decode cX11_hasRelation 14 = .ok (.iload_n 2, 1) := by decide +kernel
theorem dX11_hasRelation_15 : decode cX11_hasRelation 15 = .ok (.invokevirtual 414, 3) := by decide +kernel
theorem dX11_hasRelation_18 : decode cX11_hasRelation 18 = .ok (.ifCond .ne 9, 3) := by decide +kernel
theorem dX11_hasRelation_21 : decode cX11_hasRelation 21 = .ok (.iinc 2 1, 3) := by decide +kernel
theorem dX11_hasRelation_24 : decode cX11_hasRelation 24 = .ok (.goto (-17), 3) := by decide +kernel
theorem dX11_hasRelation_27 : decode cX11_hasRelation 27 = .ok (.iload_n 2, 1) := by decide +kernel
theorem dX11_hasRelation_28 : decode cX11_hasRelation 28 = .ok (.iload_n 1, 1) := by decide +kernel
theorem dX11_hasRelation_29 : decode cX11_hasRelation 29 = .ok (.if_icmp .ne 5, 3) := by decide +kernel
theorem dX11_hasRelation_32 : decode cX11_hasRelation 32 = .ok (.iconst 0, 1) := by decide +kernel
theorem dX11_hasRelation_33 : decode cX11_hasRelation 33 = .ok (.ireturn, 1) := by decide +kernel
theorem dX11_hasRelation_34 : decode cX11_hasRelation 34 = .ok (.iconst 0, 1) := by decide +kernel
theorem dX11_hasRelation_35 : decode cX11_hasRelation 35 = .ok (.istore_n 3, 1) := by decide +kernel
theorem dX11_hasRelation_36 : decode cX11_hasRelation 36 = .ok (.iload_n 3, 1) := by decide +kernel
theorem dX11_hasRelation_37 : decode cX11_hasRelation 37 = .ok (.bipush 6, 2) := by decide +kernel
theorem dX11_hasRelation_39 : decode cX11_hasRelation 39 = .ok (.if_icmp .ge 16, 3) := by decide +kernel
theorem dX11_hasRelation_42 : decode cX11_hasRelation 42 = .ok (.aload_n 0, 1) := by decide +kernel
theorem dX11_hasRelation_43 : decode cX11_hasRelation 43 = .ok (.getfield 75, 3) := by decide +kernel
theorem dX11_hasRelation_46 : decode cX11_hasRelation 46 = .ok (.iload_n 3, 1) := by decide +kernel
theorem dX11_hasRelation_47 : decode cX11_hasRelation 47 = .ok (.lconst 0, 1) := by decide +kernel
theorem dX11_hasRelation_48 : decode cX11_hasRelation 48 = .ok (.lastore, 1) := by decide +kernel
theorem dX11_hasRelation_49 : decode cX11_hasRelation 49 = .ok (.iinc 3 1, 3) := by decide +kernel
theorem dX11_hasRelation_52 : decode cX11_hasRelation 52 = .ok (.goto (-16), 3) := by decide +kernel
theorem dX11_hasRelation_55 : decode cX11_hasRelation 55 = .ok (.iconst 0, 1) := by decide +kernel
theorem dX11_hasRelation_56 : decode cX11_hasRelation 56 = .ok (.istore_n 3, 1) := by decide +kernel
theorem dX11_hasRelation_57 : decode cX11_hasRelation 57 = .ok (.iload_n 3, 1) := by decide +kernel
theorem dX11_hasRelation_58 : decode cX11_hasRelation 58 = .ok (.aload_n 0, 1) := by decide +kernel
theorem dX11_hasRelation_59 : decode cX11_hasRelation 59 = .ok (.getfield 408, 3) := by decide +kernel
theorem dX11_hasRelation_62 : decode cX11_hasRelation 62 = .ok (.if_icmp .ge 21, 3) := by decide +kernel
theorem dX11_hasRelation_65 : decode cX11_hasRelation 65 = .ok (.aload_n 0, 1) := by decide +kernel
theorem dX11_hasRelation_66 : decode cX11_hasRelation 66 = .ok (.getfield 68, 3) := by decide +kernel
theorem dX11_hasRelation_69 : decode cX11_hasRelation 69 = .ok (.iload_n 3, 1) := by decide +kernel
theorem dX11_hasRelation_70 : decode cX11_hasRelation 70 = .ok (.aload_n 0, 1) := by decide +kernel
theorem dX11_hasRelation_71 : decode cX11_hasRelation 71 = .ok (.getfield 59, 3) := by decide +kernel
theorem dX11_hasRelation_74 : decode cX11_hasRelation 74 = .ok (.iload_n 3, 1) := by decide +kernel
theorem dX11_hasRelation_75 : decode cX11_hasRelation 75 = .ok (.iaload, 1) := by decide +kernel
theorem dX11_hasRelation_76 : decode cX11_hasRelation 76 = .ok (.iastore, 1) := by decide +kernel
theorem dX11_hasRelation_77 : decode cX11_hasRelation 77 = .ok (.iinc 3 1, 3) := by decide +kernel
theorem dX11_hasRelation_80 : decode cX11_hasRelation 80 = .ok (.goto (-23), 3) := by decide +kernel
theorem dX11_hasRelation_83 : decode cX11_hasRelation 83 = .ok (.aload_n 0, 1) := by decide +kernel
theorem dX11_hasRelation_84 : decode cX11_hasRelation 84 = .ok (.getfield 75, 3) := by decide +kernel
theorem dX11_hasRelation_87 : decode cX11_hasRelation 87 = .ok (.iload_n 2, 1) := by decide +kernel
theorem dX11_hasRelation_88 : decode cX11_hasRelation 88 = .ok (.aload_n 0, 1) := by decide +kernel
theorem dX11_hasRelation_89 : decode cX11_hasRelation 89 = .ok (.aload_n 0, 1) := by decide +kernel
theorem dX11_hasRelation_90 : decode cX11_hasRelation 90 = .ok (.getfield 408, 3) := by decide +kernel
theorem dX11_hasRelation_93 : decode cX11_hasRelation 93 = .ok (.iconst 0, 1) := by decide +kernel
theorem dX11_hasRelation_94 : decode cX11_hasRelation 94 = .ok (.iconst 0, 1) := by decide +kernel
theorem dX11_hasRelation_95 : decode cX11_hasRelation 95 = .ok (.invokevirtual 411, 3) := by decide +kernel
theorem dX11_hasRelation_98 : decode cX11_hasRelation 98 = .ok (.lastore, 1) := by decide +kernel
theorem dX11_hasRelation_99 : decode cX11_hasRelation 99 = .ok (.iconst 0, 1) := by decide +kernel
theorem dX11_hasRelation_100 : decode cX11_hasRelation 100 = .ok (.istore_n 3, 1) := by decide +kernel
theorem dX11_hasRelation_101 : decode cX11_hasRelation 101 = .ok (.iload_n 3, 1) := by decide +kernel
theorem dX11_hasRelation_102 : decode cX11_hasRelation 102 = .ok (.aload_n 0, 1) := by decide +kernel
theorem dX11_hasRelation_103 : decode cX11_hasRelation 103 = .ok (.getfield 408, 3) := by decide +kernel
theorem dX11_hasRelation_106 : decode cX11_hasRelation 106 = .ok (.if_icmp .ge 73, 3) := by decide +kernel
theorem dX11_hasRelation_109 : decode cX11_hasRelation 109 = .ok (.iconst 0, 1) := by decide +kernel
theorem dX11_hasRelation_110 : decode cX11_hasRelation 110 = .ok (.istore 4, 2) := by decide +kernel
theorem dX11_hasRelation_112 : decode cX11_hasRelation 112 = .ok (.iload 4, 2) := by decide +kernel
theorem dX11_hasRelation_114 : decode cX11_hasRelation 114 = .ok (.aload_n 0, 1) := by decide +kernel
theorem dX11_hasRelation_115 : decode cX11_hasRelation 115 = .ok (.getfield 408, 3) := by decide +kernel
theorem dX11_hasRelation_118 : decode cX11_hasRelation 118 = .ok (.if_icmp .ge 33, 3) := by decide +kernel
theorem dX11_hasRelation_121 : decode cX11_hasRelation 121 = .ok (.aload_n 0, 1) := by decide +kernel
theorem dX11_hasRelation_122 : decode cX11_hasRelation 122 = .ok (.getfield 68, 3) := by decide +kernel
theorem dX11_hasRelation_125 : decode cX11_hasRelation 125 = .ok (.iload 4, 2) := by decide +kernel
theorem dX11_hasRelation_127 : decode cX11_hasRelation 127 = .ok (.iload 4, 2) := by decide +kernel
theorem dX11_hasRelation_129 : decode cX11_hasRelation 129 = .ok (.iload_n 3, 1) := by decide +kernel
theorem dX11_hasRelation_130 : decode cX11_hasRelation 130 = .ok (.if_icmp .ne 7, 3) := by decide +kernel
theorem dX11_hasRelation_133 : decode cX11_hasRelation 133 = .ok (.iload_n 2, 1) := by decide +kernel
theorem dX11_hasRelation_134 : decode cX11_hasRelation 134 = .ok (.goto 10, 3) := by decide +kernel
theorem dX11_hasRelation_137 : decode cX11_hasRelation 137 = .ok (.aload_n 0, 1) := by decide +kernel
theorem dX11_hasRelation_138 : decode cX11_hasRelation 138 = .ok (.getfield 59, 3) := by decide +kernel
theorem dX11_hasRelation_141 : decode cX11_hasRelation 141 = .ok (.iload 4, 2) := by decide +kernel
theorem dX11_hasRelation_143 : decode cX11_hasRelation 143 = .ok (.iaload, 1) := by decide +kernel
theorem dX11_hasRelation_144 : decode cX11_hasRelation 144 = .ok (.iastore, 1) := by decide +kernel
theorem dX11_hasRelation_145 : decode cX11_hasRelation 145 = .ok (.iinc 4 1, 3) := by decide +kernel
theorem dX11_hasRelation_148 : decode cX11_hasRelation 148 = .ok (.goto (-36), 3) := by decide +kernel
theorem dX11_hasRelation_151 : decode cX11_hasRelation 151 = .ok (.aload_n 0, 1) := by decide +kernel
theorem dX11_hasRelation_152 : decode cX11_hasRelation 152 = .ok (.getfield 75, 3) := by decide +kernel
theorem dX11_hasRelation_155 : decode cX11_hasRelation 155 = .ok (.aload_n 0, 1) := by decide +kernel
theorem dX11_hasRelation_156 : decode cX11_hasRelation 156 = .ok (.getfield 59, 3) := by decide +kernel
theorem dX11_hasRelation_159 : decode cX11_hasRelation 159 = .ok (.iload_n 3, 1) := by decide +kernel
theorem dX11_hasRelation_160 : decode cX11_hasRelation 160 = .ok (.iaload, 1) := by decide +kernel
theorem dX11_hasRelation_161 : decode cX11_hasRelation 161 = .ok (.aload_n 0, 1) := by decide +kernel
theorem dX11_hasRelation_162 : decode cX11_hasRelation 162 = .ok (.aload_n 0, 1) := by decide +kernel
theorem dX11_hasRelation_163 : decode cX11_hasRelation 163 = .ok (.getfield 408, 3) := by decide +kernel
theorem dX11_hasRelation_166 : decode cX11_hasRelation 166 = .ok (.iconst 0, 1) := by decide +kernel
theorem dX11_hasRelation_167 : decode cX11_hasRelation 167 = .ok (.iconst 0, 1) := by decide +kernel
theorem dX11_hasRelation_168 : decode cX11_hasRelation 168 = .ok (.invokevirtual 411, 3) := by decide +kernel
theorem dX11_hasRelation_171 : decode cX11_hasRelation 171 = .ok (.lneg, 1) := by decide +kernel
theorem dX11_hasRelation_172 : decode cX11_hasRelation 172 = .ok (.lastore, 1) := by decide +kernel
theorem dX11_hasRelation_173 : decode cX11_hasRelation 173 = .ok (.iinc 3 1, 3) := by decide +kernel
theorem dX11_hasRelation_176 : decode cX11_hasRelation 176 = .ok (.goto (-75), 3) := by decide +kernel
theorem dX11_hasRelation_179 : decode cX11_hasRelation 179 = .ok (.lconst 0, 1) := by decide +kernel
theorem dX11_hasRelation_180 : decode cX11_hasRelation 180 = .ok (.lstore_n 3, 1) := by decide +kernel
theorem dX11_hasRelation_181 : decode cX11_hasRelation 181 = .ok (.iconst 0, 1) := by decide +kernel
theorem dX11_hasRelation_182 : decode cX11_hasRelation 182 = .ok (.istore 5, 2) := by decide +kernel
theorem dX11_hasRelation_184 : decode cX11_hasRelation 184 = .ok (.iload 5, 2) := by decide +kernel
theorem dX11_hasRelation_186 : decode cX11_hasRelation 186 = .ok (.iload_n 1, 1) := by decide +kernel
theorem dX11_hasRelation_187 : decode cX11_hasRelation 187 = .ok (.if_icmp .ge 21, 3) := by decide +kernel
theorem dX11_hasRelation_190 : decode cX11_hasRelation 190 = .ok (.lload_n 3, 1) := by decide +kernel
theorem dX11_hasRelation_191 : decode cX11_hasRelation 191 = .ok (.aload_n 0, 1) := by decide +kernel
theorem dX11_hasRelation_192 : decode cX11_hasRelation 192 = .ok (.getfield 75, 3) := by decide +kernel
theorem dX11_hasRelation_195 : decode cX11_hasRelation 195 = .ok (.iload 5, 2) := by decide +kernel
theorem dX11_hasRelation_197 : decode cX11_hasRelation 197 = .ok (.laload, 1) := by decide +kernel
theorem dX11_hasRelation_198 : decode cX11_hasRelation 198 = .ok (.invokestatic 264, 3) := by decide +kernel
theorem dX11_hasRelation_201 : decode cX11_hasRelation 201 = .ok (.lstore_n 3, 1) := by decide +kernel
theorem dX11_hasRelation_202 : decode cX11_hasRelation 202 = .ok (.iinc 5 1, 3) := by decide +kernel
theorem dX11_hasRelation_205 : decode cX11_hasRelation 205 = .ok (.goto (-21), 3) := by decide +kernel
theorem dX11_hasRelation_208 : decode cX11_hasRelation 208 = .ok (.aload_n 0, 1) := by decide +kernel
theorem dX11_hasRelation_209 : decode cX11_hasRelation 209 = .ok (.getfield 75, 3) := by decide +kernel
theorem dX11_hasRelation_212 : decode cX11_hasRelation 212 = .ok (.iload_n 2, 1) := by decide +kernel
theorem dX11_hasRelation_213 : decode cX11_hasRelation 213 = .ok (.laload, 1) := by decide +kernel
theorem dX11_hasRelation_214 : decode cX11_hasRelation 214 = .ok (.lconst 0, 1) := by decide +kernel
theorem dX11_hasRelation_215 : decode cX11_hasRelation 215 = .ok (.lcmp, 1) := by decide +kernel
theorem dX11_hasRelation_216 : decode cX11_hasRelation 216 = .ok (.ifCond .ge 6, 3) := by decide +kernel
theorem dX11_hasRelation_219 : decode cX11_hasRelation 219 = .ok (.lload_n 3, 1) := by decide +kernel
theorem dX11_hasRelation_220 : decode cX11_hasRelation 220 = .ok (.lneg, 1) := by decide +kernel
theorem dX11_hasRelation_221 : decode cX11_hasRelation 221 = .ok (.lstore_n 3, 1) := by decide +kernel
theorem dX11_hasRelation_222 : decode cX11_hasRelation 222 = .ok (.iconst 0, 1) := by decide +kernel
theorem dX11_hasRelation_223 : decode cX11_hasRelation 223 = .ok (.istore 5, 2) := by decide +kernel
theorem dX11_hasRelation_225 : decode cX11_hasRelation 225 = .ok (.iload 5, 2) := by decide +kernel
theorem dX11_hasRelation_227 : decode cX11_hasRelation 227 = .ok (.iload_n 1, 1) := by decide +kernel
theorem dX11_hasRelation_228 : decode cX11_hasRelation 228 = .ok (.if_icmp .ge 20, 3) := by decide +kernel
theorem dX11_hasRelation_231 : decode cX11_hasRelation 231 = .ok (.aload_n 0, 1) := by decide +kernel
theorem dX11_hasRelation_232 : decode cX11_hasRelation 232 = .ok (.getfield 75, 3) := by decide +kernel
theorem dX11_hasRelation_235 : decode cX11_hasRelation 235 = .ok (.iload 5, 2) := by decide +kernel
theorem dX11_hasRelation_237 : decode cX11_hasRelation 237 = .ok (.dup2, 1) := by decide +kernel
theorem dX11_hasRelation_238 : decode cX11_hasRelation 238 = .ok (.laload, 1) := by decide +kernel
theorem dX11_hasRelation_239 : decode cX11_hasRelation 239 = .ok (.lload_n 3, 1) := by decide +kernel
theorem dX11_hasRelation_240 : decode cX11_hasRelation 240 = .ok (.ldiv, 1) := by decide +kernel
theorem dX11_hasRelation_241 : decode cX11_hasRelation 241 = .ok (.lastore, 1) := by decide +kernel
theorem dX11_hasRelation_242 : decode cX11_hasRelation 242 = .ok (.iinc 5 1, 3) := by decide +kernel
theorem dX11_hasRelation_245 : decode cX11_hasRelation 245 = .ok (.goto (-20), 3) := by decide +kernel
theorem dX11_hasRelation_248 : decode cX11_hasRelation 248 = .ok (.iconst 1, 1) := by decide +kernel
theorem dX11_hasRelation_249 : decode cX11_hasRelation 249 = .ok (.ireturn, 1) := by decide +kernel
theorem dX11_isInt_0 : decode cX11_isInt 0 = .ok (.lload_n 0, 1) := by decide +kernel
theorem dX11_isInt_1 : decode cX11_isInt 1 = .ok (.ldc2_w 419, 3) := by decide +kernel
theorem dX11_isInt_4 : decode cX11_isInt 4 = .ok (.lcmp, 1) := by decide +kernel
theorem dX11_isInt_5 : decode cX11_isInt 5 = .ok (.ifCond .lt 15, 3) := by decide +kernel
theorem dX11_isInt_8 : decode cX11_isInt 8 = .ok (.lload_n 0, 1) := by decide +kernel
theorem dX11_isInt_9 : decode cX11_isInt 9 = .ok (.ldc2_w 421, 3) := by decide +kernel
theorem dX11_isInt_12 : decode cX11_isInt 12 = .ok (.lcmp, 1) := by decide +kernel
theorem dX11_isInt_13 : decode cX11_isInt 13 = .ok (.ifCond .gt 7, 3) := by decide +kernel
theorem dX11_isInt_16 : decode cX11_isInt 16 = .ok (.iconst 1, 1) := by decide +kernel
theorem dX11_isInt_17 : decode cX11_isInt 17 = .ok (.goto 4, 3) := by decide +kernel
theorem dX11_isInt_20 : decode cX11_isInt 20 = .ok (.iconst 0, 1) := by decide +kernel
theorem dX11_isInt_21 : decode cX11_isInt 21 = .ok (.ireturn, 1) := by decide +kernel
set_option maxRecDepth 20000 in
theorem ggX11_areInts_X11_isInt : GoodIn wsX11_areInts wsX11_isInt := goodIn_r _ [5, 6, 7] (by decide +kernel) (by decide +kernel)
set_option maxRecDepth 20000 in
theorem gX11_areInts_X11_isInt : GoodIn wsX11_areInts (va_wsS RX11 423 yX11_isInt wsX11_isInt) := goodIn_app (goodIn_of _ (by decide +kernel)) ggX11_areInts_X11_isInt
theorem dX11_areInts_0 : decode cX11_areInts 0 = .ok (.iconst 0, 1) := by decide +kernel
theorem dX11_areInts_1 : decode cX11_areInts 1 = .ok (.istore_n 2, 1) := by decide +kernel
theorem dX11_areInts_2 : decode cX11_areInts 2 = .ok (.iload_n 2, 1) := by decide +kernel
theorem dX11_areInts_3 : decode cX11_areInts 3 = .ok (.iload_n 1, 1) := by decide +kernel
theorem dX11_areInts_4 : decode cX11_areInts 4 = .ok (.if_icmp .ge 23, 3) := by decide +kernel
theorem dX11_areInts_7 : decode cX11_areInts 7 = .ok (.aload_n 0, 1) := by decide +kernel
theorem dX11_areInts_8 : decode cX11_areInts 8 = .ok (.getfield 75, 3) := by decide +kernel
theorem dX11_areInts_11 : decode cX11_areInts 11 = .ok (.iload_n 2, 1) := by decide +kernel
theorem dX11_areInts_12 : decode cX11_areInts 12 = .ok (.laload, 1) := by decide +kernel
theorem dX11_areInts_13 : decode cX11_areInts 13 = .ok (.invokestatic 423, 3) := by decide +kernel
theorem dX11_areInts_16 : decode cX11_areInts 16 = .ok (.ifCond .ne 5, 3) := by decide +kernel
theorem dX11_areInts_19 : decode cX11_areInts 19 = .ok (.iconst 0, 1) := by decide +kernel
theorem dX11_areInts_20 : decode cX11_areInts 20 = .ok (.ireturn, 1) := by decide +kernel
theorem dX11_areInts_21 : decode cX11_areInts 21 = .ok (.iinc 2 1, 3) := by decide +kernel
theorem dX11_areInts_24 : decode cX11_areInts 24 = .ok (.goto (-22), 3) := by decide +kernel
theorem dX11_areInts_27 : decode cX11_areInts 27 = .ok (.iconst 1, 1) := by decide +kernel
theorem dX11_areInts_28 : decode cX11_areInts 28 = .ok (.ireturn, 1) := by decide +kernel
set_option maxRecDepth 20000 in
theorem ggX11_laysPicked_X11_begins : GoodIn wsX11_laysPicked wsX11_begins := goodIn_r _ [8, 9, 10, 115, 116, 117, 118, 119, 120, 121, 122, 123, 124, 125, 126, 127, 128, 129, 130, 131, 132, 133, 134, 135, 136, 137, 138, 139, 140, 141, 142, 143, 144, 145, 146, 147, 148, 149, 150, 151, 152, 153, 154, 155, 156, 157, 158, 159, 160, 161, 162, 163, 164, 165, 166] (by decide +kernel) (by decide +kernel)
set_option maxRecDepth 20000 in
theorem gX11_laysPicked_X11_begins : GoodIn wsX11_laysPicked (wsV RX11 322 RX11 yX11_begins wsX11_begins) := goodIn_app (goodIn_of _ (by decide +kernel)) ggX11_laysPicked_X11_begins
set_option maxRecDepth 20000 in
theorem ggX11_laysPicked_X11_laysEdge : GoodIn wsX11_laysPicked wsX11_laysEdge := goodIn_r _ [14, 15, 16, 17, 18, 19, 20, 21, 22, 7, 23, 24, 25, 26, 27, 28, 29, 30, 31, 32, 33, 34, 35, 36, 37, 38, 39, 40, 41, 42, 43, 44, 45, 46, 47, 48, 49, 50, 51, 52, 53, 54, 55, 56, 57, 58, 59, 60, 61, 62, 63, 64, 65, 66, 67, 68, 69, 70, 71, 72, 73, 74, 75, 76, 77, 78, 79, 80, 81, 82, 83, 84, 85, 86, 87, 88, 89, 90, 91, 92, 93, 94, 115, 116, 117, 118, 119, 120, 121, 122, 123, 124, 125, 126, 127, 128, 129, 130, 131, 132, 133, 134, 135, 136, 137, 138, 139, 140, 141, 142, 143, 144, 145, 146, 147, 148, 149, 150, 151, 152, 153, 154, 155, 156, 157, 158, 159, 160, 161, 162, 163, 164, 165, 166] (by decide +kernel) (by decide +kernel)
set_option maxRecDepth 20000 in
theorem gX11_laysPicked_X11_laysEdge : GoodIn wsX11_laysPicked (wsV RX11 308 RX11 yX11_laysEdge wsX11_laysEdge) := goodIn_app (goodIn_of _ (by decide +kernel)) ggX11_laysPicked_X11_laysEdge
set_option maxRecDepth 20000 in
theorem ggX11_laysPicked_X11_addsEdge : GoodIn wsX11_laysPicked wsX11_addsEdge := goodIn_r _ [98, 20, 16, 81, 15, 82, 99, 100, 101, 7, 102, 9, 103, 104, 105, 106, 107, 108, 109, 10, 115, 116, 117, 118, 119, 120, 121, 122, 123, 124, 125, 126, 127, 128, 129, 130, 131, 132, 133, 134, 135, 136, 137, 138, 139, 140, 141, 142, 143, 144, 145, 146, 147, 148, 149, 150, 151, 152, 153, 154, 155, 156, 157, 158, 159, 160, 161, 162, 163, 164, 165, 166] (by decide +kernel) (by decide +kernel)
set_option maxRecDepth 20000 in
theorem gX11_laysPicked_X11_addsEdge : GoodIn wsX11_laysPicked (wsV RX11 325 RX11 yX11_addsEdge wsX11_addsEdge) := goodIn_app (goodIn_of _ (by decide +kernel)) ggX11_laysPicked_X11_addsEdge
set_option maxRecDepth 20000 in
theorem ggX11_laysPicked_X11_ends : GoodIn wsX11_laysPicked wsX11_ends := goodIn_r _ [113, 10, 9, 105, 103, 104, 114, 115, 116, 117, 118, 119, 120, 121, 122, 123, 124, 125, 126, 127, 128, 129, 130, 131, 132, 133, 134, 135, 136, 137, 138, 139, 140, 141, 142, 143, 144, 145, 146, 147, 148, 149, 150, 151, 152, 153, 154, 155, 156, 157, 158, 159, 160, 161, 162, 163, 164, 165, 166] (by decide +kernel) (by decide +kernel)
set_option maxRecDepth 20000 in
theorem gX11_laysPicked_X11_ends : GoodIn wsX11_laysPicked (wsV RX11 329 RX11 yX11_ends wsX11_ends) := goodIn_app (goodIn_of _ (by decide +kernel)) ggX11_laysPicked_X11_ends
theorem dX11_laysPicked_0 : decode cX11_laysPicked 0 = .ok (.iconst 0, 1) := by decide +kernel
theorem dX11_laysPicked_1 : decode cX11_laysPicked 1 = .ok (.istore_n 1, 1) := by decide +kernel
theorem dX11_laysPicked_2 : decode cX11_laysPicked 2 = .ok (.iload_n 1, 1) := by decide +kernel
theorem dX11_laysPicked_3 : decode cX11_laysPicked 3 = .ok (.aload_n 0, 1) := by decide +kernel
theorem dX11_laysPicked_4 : decode cX11_laysPicked 4 = .ok (.getfield 194, 3) := by decide +kernel
theorem dX11_laysPicked_7 : decode cX11_laysPicked 7 = .ok (.if_icmp .ge 41, 3) := by decide +kernel
theorem dX11_laysPicked_10 : decode cX11_laysPicked 10 = .ok (.aload_n 0, 1) := by decide +kernel
theorem dX11_laysPicked_11 : decode cX11_laysPicked 11 = .ok (.iload_n 1, 1) := by decide +kernel
theorem dX11_laysPicked_12 : decode cX11_laysPicked 12 = .ok (.invokevirtual 322, 3) := by decide +kernel
theorem dX11_laysPicked_15 : decode cX11_laysPicked 15 = .ok (.aload_n 0, 1) := by decide +kernel
theorem dX11_laysPicked_16 : decode cX11_laysPicked 16 = .ok (.aload_n 0, 1) := by decide +kernel
theorem dX11_laysPicked_17 : decode cX11_laysPicked 17 = .ok (.getfield 53, 3) := by decide +kernel
theorem dX11_laysPicked_20 : decode cX11_laysPicked 20 = .ok (.iload_n 1, 1) := by decide +kernel
theorem dX11_laysPicked_21 : decode cX11_laysPicked 21 = .ok (.iaload, 1) := by decide +kernel
theorem dX11_laysPicked_22 : decode cX11_laysPicked 22 = .ok (.aload_n 0, 1) := by decide +kernel
theorem dX11_laysPicked_23 : decode cX11_laysPicked 23 = .ok (.getfield 56, 3) := by decide +kernel
theorem dX11_laysPicked_26 : decode cX11_laysPicked 26 = .ok (.iload_n 1, 1) := by decide +kernel
theorem dX11_laysPicked_27 : decode cX11_laysPicked 27 = .ok (.iaload, 1) := by decide +kernel
theorem dX11_laysPicked_28 : decode cX11_laysPicked 28 = .ok (.invokevirtual 308, 3) := by decide +kernel
theorem dX11_laysPicked_31 : decode cX11_laysPicked 31 = .ok (.aload_n 0, 1) := by decide +kernel
theorem dX11_laysPicked_32 : decode cX11_laysPicked 32 = .ok (.iload_n 1, 1) := by decide +kernel
theorem dX11_laysPicked_33 : decode cX11_laysPicked 33 = .ok (.iconst 0, 1) := by decide +kernel
theorem dX11_laysPicked_34 : decode cX11_laysPicked 34 = .ok (.invokevirtual 325, 3) := by decide +kernel
theorem dX11_laysPicked_37 : decode cX11_laysPicked 37 = .ok (.aload_n 0, 1) := by decide +kernel
theorem dX11_laysPicked_38 : decode cX11_laysPicked 38 = .ok (.iload_n 1, 1) := by decide +kernel
theorem dX11_laysPicked_39 : decode cX11_laysPicked 39 = .ok (.invokevirtual 329, 3) := by decide +kernel
theorem dX11_laysPicked_42 : decode cX11_laysPicked 42 = .ok (.iinc 1 1, 3) := by decide +kernel
theorem dX11_laysPicked_45 : decode cX11_laysPicked 45 = .ok (.goto (-43), 3) := by decide +kernel
theorem dX11_laysPicked_48 : decode cX11_laysPicked 48 = .ok (.return_, 1) := by decide +kernel
set_option maxRecDepth 20000 in
theorem ggX11_rank_X11_laysPicked : GoodIn wsX11_rank wsX11_laysPicked := goodIn_r _ [7, 2, 8, 9, 10, 11, 12, 6, 13, 14, 15, 16, 17, 18, 19, 20, 21, 22, 23, 24, 25, 26, 27, 28, 29, 30, 31, 32, 33, 34, 35, 36, 37, 38, 39, 40, 41, 42, 43, 44, 45, 46, 47, 48, 49, 50, 51, 52, 53, 54, 55, 56, 57, 58, 59, 60, 61, 62, 63, 64, 65, 66, 67, 68, 69, 70, 71, 72, 73, 74, 75, 76, 77, 78, 79, 80, 81, 82, 83, 84, 85, 86, 87, 88, 89, 90, 91, 92, 93, 94, 95, 96, 97, 98, 99, 100, 101, 102, 103, 104, 105, 106, 107, 108, 109, 110, 111, 112, 113, 114, 115, 116, 117, 118, 119, 146, 147, 148, 149, 150, 151, 152, 153, 154, 155, 156, 157, 158, 159, 160, 161, 162, 163, 164, 165, 166, 167, 168, 169, 170, 171, 172, 173, 174, 175, 176, 177, 178, 179, 180, 181, 182, 183, 184, 185, 186, 187, 188, 189, 190, 191, 192, 193, 194, 195, 196, 197] (by decide +kernel) (by decide +kernel)
set_option maxRecDepth 20000 in
theorem gX11_rank_X11_laysPicked : GoodIn wsX11_rank (wsV RX11 427 RX11 yX11_laysPicked wsX11_laysPicked) := goodIn_app (goodIn_of _ (by decide +kernel)) ggX11_rank_X11_laysPicked
set_option maxRecDepth 20000 in
theorem ggX11_rank_X11_rankOfRows : GoodIn wsX11_rank wsX11_rankOfRows := goodIn_r _ [123, 124, 125, 126, 127, 6, 128, 129, 130, 15, 119, 108, 109, 131, 132, 133, 134, 135, 136, 137, 138, 139, 140, 141, 110, 142, 143, 144, 145, 146, 147, 148, 149, 150, 151, 152, 153, 154, 155, 156, 157, 158, 159, 160, 161, 162, 163, 164, 165, 166, 167, 168, 169, 170, 171, 172, 173, 174, 175, 176, 177, 178, 179, 180, 181, 182, 183, 184, 185, 186, 187, 188, 189, 190, 191, 192, 193, 194, 195, 196, 197] (by decide +kernel) (by decide +kernel)
set_option maxRecDepth 20000 in
theorem gX11_rank_X11_rankOfRows : GoodIn wsX11_rank (wsV RX11 430 RX11 yX11_rankOfRows wsX11_rankOfRows) := goodIn_app (goodIn_of _ (by decide +kernel)) ggX11_rank_X11_rankOfRows
theorem dX11_rank_0 : decode cX11_rank 0 = .ok (.aload_n 0, 1) := by decide +kernel
theorem dX11_rank_1 : decode cX11_rank 1 = .ok (.iconst 0, 1) := by decide +kernel
theorem dX11_rank_2 : decode cX11_rank 2 = .ok (.putfield 106, 3) := by decide +kernel
theorem dX11_rank_5 : decode cX11_rank 5 = .ok (.aload_n 0, 1) := by decide +kernel
theorem dX11_rank_6 : decode cX11_rank 6 = .ok (.invokevirtual 427, 3) := by decide +kernel
theorem dX11_rank_9 : decode cX11_rank 9 = .ok (.aload_n 0, 1) := by decide +kernel
theorem dX11_rank_10 : decode cX11_rank 10 = .ok (.aload_n 0, 1) := by decide +kernel
theorem dX11_rank_11 : decode cX11_rank 11 = .ok (.getfield 194, 3) := by decide +kernel
theorem dX11_rank_14 : decode cX11_rank 14 = .ok (.invokevirtual 430, 3) := by decide +kernel
theorem dX11_rank_17 : decode cX11_rank 17 = .ok (.ireturn, 1) := by decide +kernel
set_option maxRecDepth 20000 in
theorem ggX11_relation_X11_laysPicked : GoodIn wsX11_relation wsX11_laysPicked := goodIn_r _ [9, 2, 10, 11, 12, 13, 14, 8, 15, 16, 17, 18, 19, 20, 21, 22, 23, 24, 25, 26, 27, 28, 29, 30, 31, 32, 33, 34, 35, 36, 37, 38, 39, 40, 41, 42, 43, 44, 45, 46, 47, 48, 49, 50, 51, 52, 53, 54, 55, 56, 57, 58, 59, 60, 61, 62, 63, 64, 65, 66, 67, 68, 69, 70, 71, 72, 73, 74, 75, 76, 77, 78, 79, 80, 81, 82, 83, 84, 85, 86, 87, 88, 89, 90, 91, 92, 93, 94, 95, 96, 97, 98, 99, 100, 101, 102, 103, 104, 105, 106, 107, 108, 109, 110, 111, 112, 113, 114, 115, 116, 117, 118, 119, 120, 121, 157, 158, 159, 160, 161, 162, 163, 164, 165, 166, 167, 168, 169, 170, 171, 172, 173, 174, 175, 176, 177, 178, 179, 180, 181, 182, 183, 184, 185, 186, 187, 188, 189, 190, 191, 192, 193, 194, 195, 196, 197, 198, 199, 200, 201, 202, 203, 204, 205, 206, 207, 208] (by decide +kernel) (by decide +kernel)
set_option maxRecDepth 20000 in
theorem gX11_relation_X11_laysPicked : GoodIn wsX11_relation (wsV RX11 427 RX11 yX11_laysPicked wsX11_laysPicked) := goodIn_app (goodIn_of _ (by decide +kernel)) ggX11_relation_X11_laysPicked
set_option maxRecDepth 20000 in
theorem ggX11_relation_X11_hasRelation : GoodIn wsX11_relation wsX11_hasRelation := goodIn_r _ [125, 126, 4, 127, 128, 129, 130, 131, 8, 132, 17, 121, 110, 111, 133, 134, 135, 136, 137, 138, 139, 140, 141, 142, 143, 112, 144, 145, 146, 147, 73, 74, 75, 157, 158, 159, 160, 161, 162, 163, 164, 165, 166, 167, 168, 169, 170, 171, 172, 173, 174, 175, 176, 177, 178, 179, 180, 181, 182, 183, 184, 185, 186, 187, 188, 189, 190, 191, 192, 193, 194, 195, 196, 197, 198, 199, 200, 201, 202, 203, 204, 205, 206, 207, 208] (by decide +kernel) (by decide +kernel)
set_option maxRecDepth 20000 in
theorem gX11_relation_X11_hasRelation : GoodIn wsX11_relation (wsV RX11 433 RX11 yX11_hasRelation wsX11_hasRelation) := goodIn_app (goodIn_of _ (by decide +kernel)) ggX11_relation_X11_hasRelation
set_option maxRecDepth 20000 in
theorem ggX11_relation_X11_areInts : GoodIn wsX11_relation wsX11_areInts := goodIn_r _ [151, 4, 152, 153, 8, 154, 155, 156, 157, 158, 159, 160, 161, 162, 163, 164, 165, 166, 167, 168, 169, 170, 171, 172, 173, 174, 175, 176, 177, 178, 179, 180, 181, 182, 183, 184, 185, 186, 187, 188, 189, 190, 191, 192, 193, 194, 195, 196, 197, 198, 199, 200, 201, 202, 203, 204, 205, 206, 207, 208] (by decide +kernel) (by decide +kernel)
set_option maxRecDepth 20000 in
theorem gX11_relation_X11_areInts : GoodIn wsX11_relation (wsV RX11 436 RX11 yX11_areInts wsX11_areInts) := goodIn_app (goodIn_of _ (by decide +kernel)) ggX11_relation_X11_areInts
theorem dX11_relation_0 : decode cX11_relation 0 = .ok (.aload_n 0, 1) := by decide +kernel
theorem dX11_relation_1 : decode cX11_relation 1 = .ok (.iconst 0, 1) := by decide +kernel
theorem dX11_relation_2 : decode cX11_relation 2 = .ok (.putfield 106, 3) := by decide +kernel
theorem dX11_relation_5 : decode cX11_relation 5 = .ok (.iload_n 1, 1) := by decide +kernel
theorem dX11_relation_6 : decode cX11_relation 6 = .ok (.ifCond .lt 11, 3) := by decide +kernel
theorem dX11_relation_9 : decode cX11_relation 9 = .ok (.iload_n 1, 1) := by decide +kernel
theorem dX11_relation_10 : decode cX11_relation 10 = .ok (.aload_n 0, 1) := by decide +kernel
theorem dX11_relation_11 : decode cX11_relation 11 = .ok (.getfield 194, 3) := by decide +kernel
theorem dX11_relation_14 : decode cX11_relation 14 = .ok (.if_icmp .lt 7, 3) := by decide +kernel
theorem dX11_relation_17 : decode cX11_relation 17 = .ok (.ldc_w 307, 3) := by decide +kernel
theorem dX11_relation_20 : decode cX11_relation 20 = .ok (.ireturn, 1) := by decide +kernel
theorem dX11_relation_21 : decode cX11_relation 21 = .ok (.aload_n 0, 1) := by decide +kernel
theorem dX11_relation_22 : decode cX11_relation 22 = .ok (.invokevirtual 427, 3) := by decide +kernel
theorem dX11_relation_25 : decode cX11_relation 25 = .ok (.aload_n 0, 1) := by decide +kernel
theorem dX11_relation_26 : decode cX11_relation 26 = .ok (.aload_n 0, 1) := by decide +kernel
theorem dX11_relation_27 : decode cX11_relation 27 = .ok (.getfield 194, 3) := by decide +kernel
theorem dX11_relation_30 : decode cX11_relation 30 = .ok (.invokevirtual 433, 3) := by decide +kernel
theorem dX11_relation_33 : decode cX11_relation 33 = .ok (.ifCond .eq 24, 3) := by decide +kernel
theorem dX11_relation_36 : decode cX11_relation 36 = .ok (.aload_n 0, 1) := by decide +kernel
theorem dX11_relation_37 : decode cX11_relation 37 = .ok (.aload_n 0, 1) := by decide +kernel
theorem dX11_relation_38 : decode cX11_relation 38 = .ok (.getfield 194, 3) := by decide +kernel
theorem dX11_relation_41 : decode cX11_relation 41 = .ok (.invokevirtual 436, 3) := by decide +kernel
theorem dX11_relation_44 : decode cX11_relation 44 = .ok (.ifCond .eq 13, 3) := by decide +kernel
theorem dX11_relation_47 : decode cX11_relation 47 = .ok (.aload_n 0, 1) := by decide +kernel
theorem dX11_relation_48 : decode cX11_relation 48 = .ok (.getfield 75, 3) := by decide +kernel
theorem dX11_relation_51 : decode cX11_relation 51 = .ok (.iload_n 1, 1) := by decide +kernel
theorem dX11_relation_52 : decode cX11_relation 52 = .ok (.laload, 1) := by decide +kernel
theorem dX11_relation_53 : decode cX11_relation 53 = .ok (.l2i, 1) := by decide +kernel
theorem dX11_relation_54 : decode cX11_relation 54 = .ok (.goto 6, 3) := by decide +kernel
theorem dX11_relation_57 : decode cX11_relation 57 = .ok (.ldc_w 307, 3) := by decide +kernel
theorem dX11_relation_60 : decode cX11_relation 60 = .ok (.ireturn, 1) := by decide +kernel
set_option maxRecDepth 20000 in
theorem ggX11_laysSolids_X11_laysSum : GoodIn wsX11_laysSolids wsX11_laysSum := goodIn_r _ [5, 6, 7, 8, 9, 10, 4, 11, 12, 13, 14, 15, 16, 17, 18, 19, 20, 21, 22, 23, 24, 25, 26, 27, 28, 29, 30, 31, 32, 33, 34, 35, 36, 37, 38, 39, 40, 41, 42, 43, 44, 45, 46, 47, 48, 49, 50, 51, 52, 53, 54, 55, 56, 57, 58, 59, 60, 61, 62, 63, 64, 65, 66, 67, 68, 69, 70, 71, 72, 73, 74, 75, 76, 77, 78, 79, 80, 81, 82, 83, 84, 85, 86, 87, 88, 89, 90, 91, 92, 93, 94, 95, 96, 97, 98, 99, 100, 101, 102, 103, 104, 105, 106, 107, 108, 109, 110, 111, 112, 113, 114, 115, 116, 117, 118, 119, 120, 121, 122, 123, 124, 125, 126, 127, 128, 129, 130, 131, 132, 133, 134, 135, 136, 137, 138, 139, 140, 141, 142, 143, 144, 145, 146, 147, 148, 149, 150, 151, 152, 153, 154, 155, 156, 157, 158, 159, 160, 161, 162, 163, 164, 165, 166, 167, 168] (by decide +kernel) (by decide +kernel)
set_option maxRecDepth 20000 in
theorem gX11_laysSolids_X11_laysSum : GoodIn wsX11_laysSolids (wsV RX11 347 RX11 yX11_laysSum wsX11_laysSum) := goodIn_app (goodIn_of _ (by decide +kernel)) ggX11_laysSolids_X11_laysSum
theorem dX11_laysSolids_0 : decode cX11_laysSolids 0 = .ok (.iconst 0, 1) := by decide +kernel
theorem dX11_laysSolids_1 : decode cX11_laysSolids 1 = .ok (.istore_n 2, 1) := by decide +kernel
theorem dX11_laysSolids_2 : decode cX11_laysSolids 2 = .ok (.iconst 0, 1) := by decide +kernel
theorem dX11_laysSolids_3 : decode cX11_laysSolids 3 = .ok (.istore_n 3, 1) := by decide +kernel
theorem dX11_laysSolids_4 : decode cX11_laysSolids 4 = .ok (.iload_n 3, 1) := by decide +kernel
theorem dX11_laysSolids_5 : decode cX11_laysSolids 5 = .ok (.iconst 4, 1) := by decide +kernel
theorem dX11_laysSolids_6 : decode cX11_laysSolids 6 = .ok (.if_icmp .ge 29, 3) := by decide +kernel
theorem dX11_laysSolids_9 : decode cX11_laysSolids 9 = .ok (.iload_n 1, 1) := by decide +kernel
theorem dX11_laysSolids_10 : decode cX11_laysSolids 10 = .ok (.iload_n 3, 1) := by decide +kernel
theorem dX11_laysSolids_11 : decode cX11_laysSolids 11 = .ok (.ishr, 1) := by decide +kernel
theorem dX11_laysSolids_12 : decode cX11_laysSolids 12 = .ok (.iconst 1, 1) := by decide +kernel
theorem dX11_laysSolids_13 : decode cX11_laysSolids 13 = .ok (.iand, 1) := by decide +kernel
theorem dX11_laysSolids_14 : decode cX11_laysSolids 14 = .ok (.ifCond .ne 6, 3) := by decide +kernel
theorem dX11_laysSolids_17 : decode cX11_laysSolids 17 = .ok (.goto 12, 3) := by decide +kernel
theorem dX11_laysSolids_20 : decode cX11_laysSolids 20 = .ok (.aload_n 0, 1) := by decide +kernel
theorem dX11_laysSolids_21 : decode cX11_laysSolids 21 = .ok (.iload_n 2, 1) := by decide +kernel
theorem dX11_laysSolids_22 : decode cX11_laysSolids 22 = .ok (.iload_n 3, 1) := by decide +kernel
theorem dX11_laysSolids_23 : decode cX11_laysSolids 23 = .ok (.invokevirtual 347, 3) := by decide +kernel
theorem dX11_laysSolids_26 : decode cX11_laysSolids 26 = .ok (.iinc 2 1, 3) := by decide +kernel
theorem dX11_laysSolids_29 : decode cX11_laysSolids 29 = .ok (.iinc 3 1, 3) := by decide +kernel
theorem dX11_laysSolids_32 : decode cX11_laysSolids 32 = .ok (.goto (-28), 3) := by decide +kernel
theorem dX11_laysSolids_35 : decode cX11_laysSolids 35 = .ok (.iload_n 2, 1) := by decide +kernel
theorem dX11_laysSolids_36 : decode cX11_laysSolids 36 = .ok (.ireturn, 1) := by decide +kernel
set_option maxRecDepth 20000 in
theorem ggX11_rankOf_X11_isIn : GoodIn wsX11_rankOf wsX11_isIn := goodIn_r _ [6] (by decide +kernel) (by decide +kernel)
set_option maxRecDepth 20000 in
theorem gX11_rankOf_X11_isIn : GoodIn wsX11_rankOf (va_wsS RX11 303 yX11_isIn wsX11_isIn) := goodIn_app (goodIn_of _ (by decide +kernel)) ggX11_rankOf_X11_isIn
set_option maxRecDepth 20000 in
theorem ggX11_rankOf_X11_laysSolids : GoodIn wsX11_rankOf wsX11_laysSolids := goodIn_r _ [10, 11, 12, 13, 5, 14, 15, 16, 17, 18, 19, 20, 21, 22, 23, 24, 25, 26, 27, 28, 29, 30, 31, 32, 33, 34, 35, 36, 37, 38, 39, 40, 41, 42, 43, 44, 45, 46, 47, 48, 49, 50, 51, 52, 53, 54, 55, 56, 57, 58, 59, 60, 61, 62, 63, 64, 65, 66, 67, 68, 69, 70, 71, 72, 73, 74, 75, 76, 77, 78, 79, 80, 81, 82, 83, 84, 85, 86, 87, 88, 89, 90, 91, 92, 93, 94, 95, 96, 97, 98, 99, 100, 101, 102, 103, 104, 105, 106, 107, 108, 109, 110, 111, 112, 113, 114, 115, 116, 117, 118, 119, 120, 121, 122, 123, 124, 125, 152, 153, 154, 155, 156, 157, 158, 159, 160, 161, 162, 163, 164, 165, 166, 167, 168, 169, 170, 171, 172, 173, 174, 175, 176, 177, 178, 179, 180, 181, 182, 183, 184, 185, 186, 187, 188, 189, 190, 191, 192, 193, 194, 195, 196, 197, 198, 199, 200, 201, 202, 203] (by decide +kernel) (by decide +kernel)
set_option maxRecDepth 20000 in
theorem gX11_rankOf_X11_laysSolids : GoodIn wsX11_rankOf (wsV RX11 441 RX11 yX11_laysSolids wsX11_laysSolids) := goodIn_app (goodIn_of _ (by decide +kernel)) ggX11_rankOf_X11_laysSolids
set_option maxRecDepth 20000 in
theorem ggX11_rankOf_X11_rankOfRows : GoodIn wsX11_rankOf wsX11_rankOfRows := goodIn_r _ [129, 130, 131, 132, 133, 5, 134, 135, 136, 22, 125, 114, 115, 137, 138, 139, 140, 141, 142, 143, 144, 145, 146, 147, 116, 148, 149, 150, 151, 152, 153, 154, 155, 156, 157, 158, 159, 160, 161, 162, 163, 164, 165, 166, 167, 168, 169, 170, 171, 172, 173, 174, 175, 176, 177, 178, 179, 180, 181, 182, 183, 184, 185, 186, 187, 188, 189, 190, 191, 192, 193, 194, 195, 196, 197, 198, 199, 200, 201, 202, 203] (by decide +kernel) (by decide +kernel)
set_option maxRecDepth 20000 in
theorem gX11_rankOf_X11_rankOfRows : GoodIn wsX11_rankOf (wsV RX11 430 RX11 yX11_rankOfRows wsX11_rankOfRows) := goodIn_app (goodIn_of _ (by decide +kernel)) ggX11_rankOf_X11_rankOfRows
theorem dX11_rankOf_0 : decode cX11_rankOf 0 = .ok (.aload_n 0, 1) := by decide +kernel
theorem dX11_rankOf_1 : decode cX11_rankOf 1 = .ok (.iconst 0, 1) := by decide +kernel
theorem dX11_rankOf_2 : decode cX11_rankOf 2 = .ok (.putfield 106, 3) := by decide +kernel
theorem dX11_rankOf_5 : decode cX11_rankOf 5 = .ok (.iload_n 1, 1) := by decide +kernel
theorem dX11_rankOf_6 : decode cX11_rankOf 6 = .ok (.i2l, 1) := by decide +kernel
theorem dX11_rankOf_7 : decode cX11_rankOf 7 = .ok (.lconst 0, 1) := by decide +kernel
theorem dX11_rankOf_8 : decode cX11_rankOf 8 = .ok (.ldc2_w 439, 3) := by decide +kernel
theorem dX11_rankOf_11 : decode cX11_rankOf 11 = .ok (.invokestatic 303, 3) := by decide +kernel
theorem dX11_rankOf_14 : decode cX11_rankOf 14 = .ok (.ifCond .eq 15, 3) := by decide +kernel
theorem dX11_rankOf_17 : decode cX11_rankOf 17 = .ok (.aload_n 0, 1) := by decide +kernel
theorem dX11_rankOf_18 : decode cX11_rankOf 18 = .ok (.aload_n 0, 1) := by decide +kernel
theorem dX11_rankOf_19 : decode cX11_rankOf 19 = .ok (.iload_n 1, 1) := by decide +kernel
theorem dX11_rankOf_20 : decode cX11_rankOf 20 = .ok (.invokevirtual 441, 3) := by decide +kernel
theorem dX11_rankOf_23 : decode cX11_rankOf 23 = .ok (.invokevirtual 430, 3) := by decide +kernel
theorem dX11_rankOf_26 : decode cX11_rankOf 26 = .ok (.goto 4, 3) := by decide +kernel
theorem dX11_rankOf_29 : decode cX11_rankOf 29 = .ok (.iconst (-1), 1) := by decide +kernel
theorem dX11_rankOf_30 : decode cX11_rankOf 30 = .ok (.ireturn, 1) := by decide +kernel
set_option maxRecDepth 20000 in
theorem ggX11_relationOf_X11_isIn : GoodIn wsX11_relationOf wsX11_isIn := goodIn_r _ [8] (by decide +kernel) (by decide +kernel)
set_option maxRecDepth 20000 in
theorem gX11_relationOf_X11_isIn : GoodIn wsX11_relationOf (va_wsS RX11 303 yX11_isIn wsX11_isIn) := goodIn_app (goodIn_of _ (by decide +kernel)) ggX11_relationOf_X11_isIn
set_option maxRecDepth 20000 in
theorem ggX11_relationOf_X11_isSolid : GoodIn wsX11_relationOf wsX11_isSolid := goodIn_r _ [11] (by decide +kernel) (by decide +kernel)
set_option maxRecDepth 20000 in
theorem gX11_relationOf_X11_isSolid : GoodIn wsX11_relationOf (va_wsS RX11 332 yX11_isSolid wsX11_isSolid) := goodIn_app (goodIn_of _ (by decide +kernel)) ggX11_relationOf_X11_isSolid
set_option maxRecDepth 20000 in
theorem ggX11_relationOf_X11_laysSolids : GoodIn wsX11_relationOf wsX11_laysSolids := goodIn_r _ [15, 16, 17, 18, 7, 19, 20, 21, 22, 23, 24, 25, 26, 27, 28, 29, 30, 31, 32, 33, 34, 35, 36, 37, 38, 39, 40, 41, 42, 43, 44, 45, 46, 47, 48, 49, 50, 51, 52, 53, 54, 55, 56, 57, 58, 59, 60, 61, 62, 63, 64, 65, 66, 67, 68, 69, 70, 71, 72, 73, 74, 75, 76, 77, 78, 79, 80, 81, 82, 83, 84, 85, 86, 87, 88, 89, 90, 91, 92, 93, 94, 95, 96, 97, 98, 99, 100, 101, 102, 103, 104, 105, 106, 107, 108, 109, 110, 111, 112, 113, 114, 115, 116, 117, 118, 119, 120, 121, 122, 123, 124, 125, 126, 127, 128, 129, 130, 166, 167, 168, 169, 170, 171, 172, 173, 174, 175, 176, 177, 178, 179, 180, 181, 182, 183, 184, 185, 186, 187, 188, 189, 190, 191, 192, 193, 194, 195, 196, 197, 198, 199, 200, 201, 202, 203, 204, 205, 206, 207, 208, 209, 210, 211, 212, 213, 214, 215, 216, 217] (by decide +kernel) (by decide +kernel)
set_option maxRecDepth 20000 in
theorem gX11_relationOf_X11_laysSolids : GoodIn wsX11_relationOf (wsV RX11 441 RX11 yX11_laysSolids wsX11_laysSolids) := goodIn_app (goodIn_of _ (by decide +kernel)) ggX11_relationOf_X11_laysSolids
set_option maxRecDepth 20000 in
theorem ggX11_relationOf_X11_hasRelation : GoodIn wsX11_relationOf wsX11_hasRelation := goodIn_r _ [134, 135, 4, 136, 137, 138, 139, 140, 7, 141, 27, 130, 119, 120, 142, 143, 144, 145, 146, 147, 148, 149, 150, 151, 152, 121, 153, 154, 155, 156, 82, 83, 84, 166, 167, 168, 169, 170, 171, 172, 173, 174, 175, 176, 177, 178, 179, 180, 181, 182, 183, 184, 185, 186, 187, 188, 189, 190, 191, 192, 193, 194, 195, 196, 197, 198, 199, 200, 201, 202, 203, 204, 205, 206, 207, 208, 209, 210, 211, 212, 213, 214, 215, 216, 217] (by decide +kernel) (by decide +kernel)
set_option maxRecDepth 20000 in
theorem gX11_relationOf_X11_hasRelation : GoodIn wsX11_relationOf (wsV RX11 433 RX11 yX11_hasRelation wsX11_hasRelation) := goodIn_app (goodIn_of _ (by decide +kernel)) ggX11_relationOf_X11_hasRelation
set_option maxRecDepth 20000 in
theorem ggX11_relationOf_X11_areInts : GoodIn wsX11_relationOf wsX11_areInts := goodIn_r _ [160, 4, 161, 162, 7, 163, 164, 165, 166, 167, 168, 169, 170, 171, 172, 173, 174, 175, 176, 177, 178, 179, 180, 181, 182, 183, 184, 185, 186, 187, 188, 189, 190, 191, 192, 193, 194, 195, 196, 197, 198, 199, 200, 201, 202, 203, 204, 205, 206, 207, 208, 209, 210, 211, 212, 213, 214, 215, 216, 217] (by decide +kernel) (by decide +kernel)
set_option maxRecDepth 20000 in
theorem gX11_relationOf_X11_areInts : GoodIn wsX11_relationOf (wsV RX11 436 RX11 yX11_areInts wsX11_areInts) := goodIn_app (goodIn_of _ (by decide +kernel)) ggX11_relationOf_X11_areInts
theorem dX11_relationOf_0 : decode cX11_relationOf 0 = .ok (.aload_n 0, 1) := by decide +kernel
theorem dX11_relationOf_1 : decode cX11_relationOf 1 = .ok (.iconst 0, 1) := by decide +kernel
theorem dX11_relationOf_2 : decode cX11_relationOf 2 = .ok (.putfield 106, 3) := by decide +kernel
theorem dX11_relationOf_5 : decode cX11_relationOf 5 = .ok (.iload_n 1, 1) := by decide +kernel
theorem dX11_relationOf_6 : decode cX11_relationOf 6 = .ok (.i2l, 1) := by decide +kernel
theorem dX11_relationOf_7 : decode cX11_relationOf 7 = .ok (.lconst 0, 1) := by decide +kernel
theorem dX11_relationOf_8 : decode cX11_relationOf 8 = .ok (.ldc2_w 439, 3) := by decide +kernel
theorem dX11_relationOf_11 : decode cX11_relationOf 11 = .ok (.invokestatic 303, 3) := by decide +kernel
theorem dX11_relationOf_14 : decode cX11_relationOf 14 = .ok (.ifCond .eq 10, 3) := by decide +kernel
theorem dX11_relationOf_17 : decode cX11_relationOf 17 = .ok (.iload_n 2, 1) := by decide +kernel
theorem dX11_relationOf_18 : decode cX11_relationOf 18 = .ok (.invokestatic 332, 3) := by decide +kernel
theorem dX11_relationOf_21 : decode cX11_relationOf 21 = .ok (.ifCond .ne 7, 3) := by decide +kernel
theorem dX11_relationOf_24 : decode cX11_relationOf 24 = .ok (.ldc_w 307, 3) := by decide +kernel
theorem dX11_relationOf_27 : decode cX11_relationOf 27 = .ok (.ireturn, 1) := by decide +kernel
theorem dX11_relationOf_28 : decode cX11_relationOf 28 = .ok (.aload_n 0, 1) := by decide +kernel
theorem dX11_relationOf_29 : decode cX11_relationOf 29 = .ok (.iload_n 1, 1) := by decide +kernel
theorem dX11_relationOf_30 : decode cX11_relationOf 30 = .ok (.invokevirtual 441, 3) := by decide +kernel
theorem dX11_relationOf_33 : decode cX11_relationOf 33 = .ok (.istore_n 3, 1) := by decide +kernel
theorem dX11_relationOf_34 : decode cX11_relationOf 34 = .ok (.aload_n 0, 1) := by decide +kernel
theorem dX11_relationOf_35 : decode cX11_relationOf 35 = .ok (.iload_n 3, 1) := by decide +kernel
theorem dX11_relationOf_36 : decode cX11_relationOf 36 = .ok (.invokevirtual 433, 3) := by decide +kernel
theorem dX11_relationOf_39 : decode cX11_relationOf 39 = .ok (.ifCond .eq 11, 3) := by decide +kernel
theorem dX11_relationOf_42 : decode cX11_relationOf 42 = .ok (.aload_n 0, 1) := by decide +kernel
theorem dX11_relationOf_43 : decode cX11_relationOf 43 = .ok (.iload_n 3, 1) := by decide +kernel
theorem dX11_relationOf_44 : decode cX11_relationOf 44 = .ok (.invokevirtual 436, 3) := by decide +kernel
theorem dX11_relationOf_47 : decode cX11_relationOf 47 = .ok (.ifCond .ne 7, 3) := by decide +kernel
theorem dX11_relationOf_50 : decode cX11_relationOf 50 = .ok (.ldc_w 307, 3) := by decide +kernel
theorem dX11_relationOf_53 : decode cX11_relationOf 53 = .ok (.ireturn, 1) := by decide +kernel
theorem dX11_relationOf_54 : decode cX11_relationOf 54 = .ok (.iload_n 1, 1) := by decide +kernel
theorem dX11_relationOf_55 : decode cX11_relationOf 55 = .ok (.iload_n 2, 1) := by decide +kernel
theorem dX11_relationOf_56 : decode cX11_relationOf 56 = .ok (.ishr, 1) := by decide +kernel
theorem dX11_relationOf_57 : decode cX11_relationOf 57 = .ok (.iconst 1, 1) := by decide +kernel
theorem dX11_relationOf_58 : decode cX11_relationOf 58 = .ok (.iand, 1) := by decide +kernel
theorem dX11_relationOf_59 : decode cX11_relationOf 59 = .ok (.ifCond .ne 5, 3) := by decide +kernel
theorem dX11_relationOf_62 : decode cX11_relationOf 62 = .ok (.iconst 0, 1) := by decide +kernel
theorem dX11_relationOf_63 : decode cX11_relationOf 63 = .ok (.ireturn, 1) := by decide +kernel
theorem dX11_relationOf_64 : decode cX11_relationOf 64 = .ok (.iconst 0, 1) := by decide +kernel
theorem dX11_relationOf_65 : decode cX11_relationOf 65 = .ok (.istore 4, 2) := by decide +kernel
theorem dX11_relationOf_67 : decode cX11_relationOf 67 = .ok (.iconst 0, 1) := by decide +kernel
theorem dX11_relationOf_68 : decode cX11_relationOf 68 = .ok (.istore 5, 2) := by decide +kernel
theorem dX11_relationOf_70 : decode cX11_relationOf 70 = .ok (.iload 5, 2) := by decide +kernel
theorem dX11_relationOf_72 : decode cX11_relationOf 72 = .ok (.iload_n 2, 1) := by decide +kernel
theorem dX11_relationOf_73 : decode cX11_relationOf 73 = .ok (.if_icmp .ge 20, 3) := by decide +kernel
theorem dX11_relationOf_76 : decode cX11_relationOf 76 = .ok (.iload 4, 2) := by decide +kernel
theorem dX11_relationOf_78 : decode cX11_relationOf 78 = .ok (.iload_n 1, 1) := by decide +kernel
theorem dX11_relationOf_79 : decode cX11_relationOf 79 = .ok (.iload 5, 2) := by decide +kernel
theorem dX11_relationOf_81 : decode cX11_relationOf 81 = .ok (.ishr, 1) := by decide +kernel
theorem dX11_relationOf_82 : decode cX11_relationOf 82 = .ok (.iconst 1, 1) := by decide +kernel
theorem dX11_relationOf_83 : decode cX11_relationOf 83 = .ok (.iand, 1) := by decide +kernel
theorem dX11_relationOf_84 : decode cX11_relationOf 84 = .ok (.iadd, 1) := by decide +kernel
theorem dX11_relationOf_85 : decode cX11_relationOf 85 = .ok (.istore 4, 2) := by decide +kernel
theorem dX11_relationOf_87 : decode cX11_relationOf 87 = .ok (.iinc 5 1, 3) := by decide +kernel
theorem dX11_relationOf_90 : decode cX11_relationOf 90 = .ok (.goto (-20), 3) := by decide +kernel
theorem dX11_relationOf_93 : decode cX11_relationOf 93 = .ok (.aload_n 0, 1) := by decide +kernel
theorem dX11_relationOf_94 : decode cX11_relationOf 94 = .ok (.getfield 75, 3) := by decide +kernel
theorem dX11_relationOf_97 : decode cX11_relationOf 97 = .ok (.iload 4, 2) := by decide +kernel
theorem dX11_relationOf_99 : decode cX11_relationOf 99 = .ok (.laload, 1) := by decide +kernel
theorem dX11_relationOf_100 : decode cX11_relationOf 100 = .ok (.l2i, 1) := by decide +kernel
theorem dX11_relationOf_101 : decode cX11_relationOf 101 = .ok (.ireturn, 1) := by decide +kernel
set_option maxRecDepth 20000 in
theorem ggX11_multiples_X11_isSolid : GoodIn wsX11_multiples wsX11_isSolid := goodIn_r _ [12] (by decide +kernel) (by decide +kernel)
set_option maxRecDepth 20000 in
theorem gX11_multiples_X11_isSolid : GoodIn wsX11_multiples (va_wsS RX11 332 yX11_isSolid wsX11_isSolid) := goodIn_app (goodIn_of _ (by decide +kernel)) ggX11_multiples_X11_isSolid
set_option maxRecDepth 20000 in
theorem ggX11_multiples_X11_isIn : GoodIn wsX11_multiples wsX11_isIn := goodIn_r _ [15] (by decide +kernel) (by decide +kernel)
set_option maxRecDepth 20000 in
theorem gX11_multiples_X11_isIn : GoodIn wsX11_multiples (va_wsS RX11 303 yX11_isIn wsX11_isIn) := goodIn_app (goodIn_of _ (by decide +kernel)) ggX11_multiples_X11_isIn
set_option maxRecDepth 20000 in
theorem ggX11_multiples_X11_laysSum : GoodIn wsX11_multiples wsX11_laysSum := goodIn_r _ [19, 20, 21, 22, 23, 24, 11, 25, 26, 5, 27, 28, 29, 30, 31, 32, 33, 34, 35, 36, 37, 38, 39, 40, 41, 42, 43, 44, 45, 46, 47, 48, 49, 50, 51, 52, 53, 54, 55, 56, 57, 58, 59, 60, 61, 62, 63, 64, 65, 66, 67, 68, 69, 70, 71, 72, 73, 74, 75, 76, 77, 78, 79, 80, 81, 82, 83, 84, 85, 86, 87, 88, 89, 90, 91, 92, 93, 94, 95, 96, 97, 98, 99, 100, 101, 2, 102, 103, 104, 105, 106, 107, 108, 109, 110, 111, 112, 113, 114, 115, 116, 7, 8, 6, 117, 118, 119, 120, 121, 122, 123, 124, 4, 129, 130, 131, 132, 133, 134, 135, 136, 137, 138, 139, 140, 141, 142, 143, 144, 145, 146, 147, 148, 149, 150, 151, 152, 153, 154, 155, 156, 157, 158, 159, 160, 161, 162, 163, 164, 165, 166, 167, 168, 169, 170, 171, 172, 173, 174, 175, 176, 177, 178, 179, 180] (by decide +kernel) (by decide +kernel)
set_option maxRecDepth 20000 in
theorem gX11_multiples_X11_laysSum : GoodIn wsX11_multiples (wsV RX11 347 RX11 yX11_laysSum wsX11_laysSum) := goodIn_app (goodIn_of _ (by decide +kernel)) ggX11_multiples_X11_laysSum
set_option maxRecDepth 20000 in
theorem ggX11_multiples_X11_common : GoodIn wsX11_multiples wsX11_common := goodIn_r _ [83] (by decide +kernel) (by decide +kernel)
set_option maxRecDepth 20000 in
theorem gX11_multiples_X11_common : GoodIn wsX11_multiples (va_wsS RX11 264 yX11_common wsX11_common) := goodIn_app (goodIn_of _ (by decide +kernel)) ggX11_multiples_X11_common
set_option maxRecDepth 20000 in
theorem ggX11_multiples_X11_volume : GoodIn wsX11_multiples wsX11_volume := goodIn_r _ [128, 20, 21, 66, 67, 68, 11, 69, 70, 71, 72, 73, 74, 75, 76, 77, 43, 44, 45, 46, 47, 48, 49, 50, 51, 52, 53, 78, 79, 80, 129, 130, 131, 132, 133, 134, 135, 136, 137, 138, 139, 140, 141, 142, 143, 144, 145, 146, 147, 148, 149, 150, 151, 152, 153, 154, 155, 156, 157, 158, 159, 160, 161, 162, 163, 164, 165, 166, 167, 168, 169, 170, 171, 172, 173, 174, 175, 176, 177, 178, 179, 180] (by decide +kernel) (by decide +kernel)
set_option maxRecDepth 20000 in
theorem gX11_multiples_X11_volume : GoodIn wsX11_multiples (wsV RX11 337 RX11 yX11_volume wsX11_volume) := goodIn_app (goodIn_of _ (by decide +kernel)) ggX11_multiples_X11_volume
theorem dX11_multiples_0 : decode cX11_multiples 0 = .ok (.aload_n 0, 1) := by decide +kernel
theorem dX11_multiples_1 : decode cX11_multiples 1 = .ok (.iconst 0, 1) := by decide +kernel
theorem dX11_multiples_2 : decode cX11_multiples 2 = .ok (.putfield 106, 3) := by decide +kernel
theorem dX11_multiples_5 : decode cX11_multiples 5 = .ok (.iload_n 1, 1) := by decide +kernel
theorem dX11_multiples_6 : decode cX11_multiples 6 = .ok (.invokestatic 332, 3) := by decide +kernel
theorem dX11_multiples_9 : decode cX11_multiples 9 = .ok (.ifCond .eq 22, 3) := by decide +kernel
theorem dX11_multiples_12 : decode cX11_multiples 12 = .ok (.iload_n 2, 1) := by decide +kernel
theorem dX11_multiples_13 : decode cX11_multiples 13 = .ok (.invokestatic 332, 3) := by decide +kernel
theorem dX11_multiples_16 : decode cX11_multiples 16 = .ok (.ifCond .eq 15, 3) := by decide +kernel
theorem dX11_multiples_19 : decode cX11_multiples 19 = .ok (.iload_n 3, 1) := by decide +kernel
theorem dX11_multiples_20 : decode cX11_multiples 20 = .ok (.i2l, 1) := by decide +kernel
theorem dX11_multiples_21 : decode cX11_multiples 21 = .ok (.lconst 0, 1) := by decide +kernel
theorem dX11_multiples_22 : decode cX11_multiples 22 = .ok (.ldc2_w 293, 3) := by decide +kernel
theorem dX11_multiples_25 : decode cX11_multiples 25 = .ok (.invokestatic 303, 3) := by decide +kernel
theorem dX11_multiples_28 : decode cX11_multiples 28 = .ok (.ifCond .ne 7, 3) := by decide +kernel
theorem dX11_multiples_31 : decode cX11_multiples 31 = .ok (.ldc2_w 444, 3) := by decide +kernel
theorem dX11_multiples_34 : decode cX11_multiples 34 = .ok (.lreturn, 1) := by decide +kernel
theorem dX11_multiples_35 : decode cX11_multiples 35 = .ok (.aload_n 0, 1) := by decide +kernel
theorem dX11_multiples_36 : decode cX11_multiples 36 = .ok (.iconst 0, 1) := by decide +kernel
theorem dX11_multiples_37 : decode cX11_multiples 37 = .ok (.iload_n 1, 1) := by decide +kernel
theorem dX11_multiples_38 : decode cX11_multiples 38 = .ok (.invokevirtual 347, 3) := by decide +kernel
theorem dX11_multiples_41 : decode cX11_multiples 41 = .ok (.aload_n 0, 1) := by decide +kernel
theorem dX11_multiples_42 : decode cX11_multiples 42 = .ok (.iconst 1, 1) := by decide +kernel
theorem dX11_multiples_43 : decode cX11_multiples 43 = .ok (.iload_n 2, 1) := by decide +kernel
theorem dX11_multiples_44 : decode cX11_multiples 44 = .ok (.invokevirtual 347, 3) := by decide +kernel
theorem dX11_multiples_47 : decode cX11_multiples 47 = .ok (.aload_n 0, 1) := by decide +kernel
theorem dX11_multiples_48 : decode cX11_multiples 48 = .ok (.getfield 41, 3) := by decide +kernel
theorem dX11_multiples_51 : decode cX11_multiples 51 = .ok (.iconst 0, 1) := by decide +kernel
theorem dX11_multiples_52 : decode cX11_multiples 52 = .ok (.iaload, 1) := by decide +kernel
theorem dX11_multiples_53 : decode cX11_multiples 53 = .ok (.ifCond .eq 18, 3) := by decide +kernel
theorem dX11_multiples_56 : decode cX11_multiples 56 = .ok (.aload_n 0, 1) := by decide +kernel
theorem dX11_multiples_57 : decode cX11_multiples 57 = .ok (.getfield 41, 3) := by decide +kernel
theorem dX11_multiples_60 : decode cX11_multiples 60 = .ok (.iconst 0, 1) := by decide +kernel
theorem dX11_multiples_61 : decode cX11_multiples 61 = .ok (.iaload, 1) := by decide +kernel
theorem dX11_multiples_62 : decode cX11_multiples 62 = .ok (.aload_n 0, 1) := by decide +kernel
theorem dX11_multiples_63 : decode cX11_multiples 63 = .ok (.getfield 41, 3) := by decide +kernel
theorem dX11_multiples_66 : decode cX11_multiples 66 = .ok (.iconst 1, 1) := by decide +kernel
theorem dX11_multiples_67 : decode cX11_multiples 67 = .ok (.iaload, 1) := by decide +kernel
theorem dX11_multiples_68 : decode cX11_multiples 68 = .ok (.if_icmp .eq 7, 3) := by decide +kernel
theorem dX11_multiples_71 : decode cX11_multiples 71 = .ok (.ldc2_w 444, 3) := by decide +kernel
theorem dX11_multiples_74 : decode cX11_multiples 74 = .ok (.lreturn, 1) := by decide +kernel
theorem dX11_multiples_75 : decode cX11_multiples 75 = .ok (.aload_n 0, 1) := by decide +kernel
theorem dX11_multiples_76 : decode cX11_multiples 76 = .ok (.getfield 38, 3) := by decide +kernel
theorem dX11_multiples_79 : decode cX11_multiples 79 = .ok (.iconst 1, 1) := by decide +kernel
theorem dX11_multiples_80 : decode cX11_multiples 80 = .ok (.iaload, 1) := by decide +kernel
theorem dX11_multiples_81 : decode cX11_multiples 81 = .ok (.istore 4, 2) := by decide +kernel
theorem dX11_multiples_83 : decode cX11_multiples 83 = .ok (.aload_n 0, 1) := by decide +kernel
theorem dX11_multiples_84 : decode cX11_multiples 84 = .ok (.getfield 35, 3) := by decide +kernel
theorem dX11_multiples_87 : decode cX11_multiples 87 = .ok (.iconst 0, 1) := by decide +kernel
theorem dX11_multiples_88 : decode cX11_multiples 88 = .ok (.iaload, 1) := by decide +kernel
theorem dX11_multiples_89 : decode cX11_multiples 89 = .ok (.i2l, 1) := by decide +kernel
theorem dX11_multiples_90 : decode cX11_multiples 90 = .ok (.aload_n 0, 1) := by decide +kernel
theorem dX11_multiples_91 : decode cX11_multiples 91 = .ok (.getfield 35, 3) := by decide +kernel
theorem dX11_multiples_94 : decode cX11_multiples 94 = .ok (.iload 4, 2) := by decide +kernel
theorem dX11_multiples_96 : decode cX11_multiples 96 = .ok (.iaload, 1) := by decide +kernel
theorem dX11_multiples_97 : decode cX11_multiples 97 = .ok (.i2l, 1) := by decide +kernel
theorem dX11_multiples_98 : decode cX11_multiples 98 = .ok (.invokestatic 264, 3) := by decide +kernel
theorem dX11_multiples_101 : decode cX11_multiples 101 = .ok (.lstore 5, 2) := by decide +kernel
theorem dX11_multiples_103 : decode cX11_multiples 103 = .ok (.aload_n 0, 1) := by decide +kernel
theorem dX11_multiples_104 : decode cX11_multiples 104 = .ok (.getfield 35, 3) := by decide +kernel
theorem dX11_multiples_107 : decode cX11_multiples 107 = .ok (.iload 4, 2) := by decide +kernel
theorem dX11_multiples_109 : decode cX11_multiples 109 = .ok (.iaload, 1) := by decide +kernel
theorem dX11_multiples_110 : decode cX11_multiples 110 = .ok (.i2l, 1) := by decide +kernel
theorem dX11_multiples_111 : decode cX11_multiples 111 = .ok (.lload 5, 2) := by decide +kernel
theorem dX11_multiples_113 : decode cX11_multiples 113 = .ok (.ldiv, 1) := by decide +kernel
theorem dX11_multiples_114 : decode cX11_multiples 114 = .ok (.lstore 7, 2) := by decide +kernel
theorem dX11_multiples_116 : decode cX11_multiples 116 = .ok (.aload_n 0, 1) := by decide +kernel
theorem dX11_multiples_117 : decode cX11_multiples 117 = .ok (.getfield 35, 3) := by decide +kernel
theorem dX11_multiples_120 : decode cX11_multiples 120 = .ok (.iconst 0, 1) := by decide +kernel
theorem dX11_multiples_121 : decode cX11_multiples 121 = .ok (.iaload, 1) := by decide +kernel
theorem dX11_multiples_122 : decode cX11_multiples 122 = .ok (.i2l, 1) := by decide +kernel
theorem dX11_multiples_123 : decode cX11_multiples 123 = .ok (.lload 5, 2) := by decide +kernel
