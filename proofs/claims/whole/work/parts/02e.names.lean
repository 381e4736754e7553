theorem dX11_clause_105 : decode cX11_clause 105 = .ok (.if_icmp .ne 11, 3) := by decide +kernel
theorem dX11_clause_108 : decode cX11_clause 108 = .ok (.aload_n 0, 1) := by decide +kernel
theorem dX11_clause_109 : decode cX11_clause 109 = .ok (.iload_n 2, 1) := by decide +kernel
theorem dX11_clause_110 : decode cX11_clause 110 = .ok (.invokevirtual 169, 3) := by decide +kernel
theorem dX11_clause_113 : decode cX11_clause 113 = .ok (.goto 22, 3) := by decide +kernel
theorem dX11_clause_116 : decode cX11_clause 116 = .ok (.iload_n 1, 1) := by decide +kernel
theorem dX11_clause_117 : decode cX11_clause 117 = .ok (.bipush 98, 2) := by decide +kernel
theorem dX11_clause_119 : decode cX11_clause 119 = .ok (.if_icmp .ne 11, 3) := by decide +kernel
theorem dX11_clause_122 : decode cX11_clause 122 = .ok (.aload_n 0, 1) := by decide +kernel
theorem dX11_clause_123 : decode cX11_clause 123 = .ok (.iload_n 2, 1) := by decide +kernel
theorem dX11_clause_124 : decode cX11_clause 124 = .ok (.invokevirtual 173, 3) := by decide +kernel
theorem dX11_clause_127 : decode cX11_clause 127 = .ok (.goto 8, 3) := by decide +kernel
theorem dX11_clause_130 : decode cX11_clause 130 = .ok (.aload_n 0, 1) := by decide +kernel
theorem dX11_clause_131 : decode cX11_clause 131 = .ok (.iload_n 2, 1) := by decide +kernel
theorem dX11_clause_132 : decode cX11_clause 132 = .ok (.invokevirtual 176, 3) := by decide +kernel
theorem dX11_clause_135 : decode cX11_clause 135 = .ok (.istore_n 3, 1) := by decide +kernel
theorem dX11_clause_136 : decode cX11_clause 136 = .ok (.aload_n 0, 1) := by decide +kernel
theorem dX11_clause_137 : decode cX11_clause 137 = .ok (.dup, 1) := by decide +kernel
theorem dX11_clause_138 : decode cX11_clause 138 = .ok (.getfield 179, 3) := by decide +kernel
theorem dX11_clause_141 : decode cX11_clause 141 = .ok (.iload_n 3, 1) := by decide +kernel
theorem dX11_clause_142 : decode cX11_clause 142 = .ok (.ifCond .eq 7, 3) := by decide +kernel
theorem dX11_clause_145 : decode cX11_clause 145 = .ok (.iconst 0, 1) := by decide +kernel
theorem dX11_clause_146 : decode cX11_clause 146 = .ok (.goto 4, 3) := by decide +kernel
theorem dX11_clause_149 : decode cX11_clause 149 = .ok (.iconst 1, 1) := by decide +kernel
theorem dX11_clause_150 : decode cX11_clause 150 = .ok (.iadd, 1) := by decide +kernel
theorem dX11_clause_151 : decode cX11_clause 151 = .ok (.putfield 179, 3) := by decide +kernel
theorem dX11_clause_154 : decode cX11_clause 154 = .ok (.return_, 1) := by decide +kernel
set_option maxRecDepth 20000 in
theorem ggX11_reads_X11_clause : GoodIn wsX11_reads wsX11_clause := goodIn_r _ [7, 1, 8, 2, 9, 10, 11, 12, 13, 6, 14, 15, 16, 17, 18, 19, 20, 21, 22, 23, 24, 25, 26, 27, 28, 29, 30, 31, 32, 33, 34, 35, 36, 37, 38, 39, 40, 41, 42, 43, 44, 45, 46, 47, 48, 49, 50, 51, 52, 53, 54, 55, 56, 57, 58, 59, 60, 61, 62, 63, 64, 65, 66, 67, 68, 69, 70, 71, 72, 73, 74, 75, 76, 77, 78, 79, 80, 81, 82, 83, 84, 85, 86, 87, 88, 89, 90, 91, 92, 93, 94, 95, 96, 97, 98, 99, 100, 101, 102, 103, 104, 105, 106, 107, 108, 109, 110, 111, 112, 113, 114, 115, 116, 117, 118, 119, 120, 121, 122, 123, 124, 125, 126, 127, 128, 129, 130, 131, 132, 133, 134, 135, 136, 137, 138, 139, 140, 141, 142, 143, 144, 145, 146, 147, 148, 149, 150, 151, 152, 153, 154, 155, 156, 157, 158, 159, 160] (by decide +kernel) (by decide +kernel)
set_option maxRecDepth 20000 in
theorem gX11_reads_X11_clause : GoodIn wsX11_reads (wsV RX11 185 RX11 yX11_clause wsX11_clause) := goodIn_app (goodIn_of _ (by decide +kernel)) ggX11_reads_X11_clause
set_option maxRecDepth 20000 in
theorem ggX11_reads_X11_look : GoodIn wsX11_reads wsX11_look := goodIn_r _ [14, 1, 15, 16, 17, 6, 18, 19, 20, 109, 110, 111, 112, 113, 114, 115, 116, 117, 118, 119, 120, 121, 122, 123, 124, 125, 126, 127, 128, 129, 130, 131, 132, 133, 134, 135, 136, 137, 138, 139, 140, 141, 142, 143, 144, 145, 146, 147, 148, 149, 150, 151, 152, 153, 154, 155, 156, 157, 158, 159, 160] (by decide +kernel) (by decide +kernel)
set_option maxRecDepth 20000 in
theorem gX11_reads_X11_look : GoodIn wsX11_reads (wsV RX11 130 RX11 yX11_look wsX11_look) := goodIn_app (goodIn_of _ (by decide +kernel)) ggX11_reads_X11_look
set_option maxRecDepth 20000 in
theorem ggX11_reads_X11_fails : GoodIn wsX11_reads wsX11_fails := goodIn_r _ [24, 2, 1, 109, 110, 111, 112, 113, 114, 115, 116, 117, 118, 119, 120, 121, 122, 123, 124, 125, 126, 127, 128, 129, 130, 131, 132, 133, 134, 135, 136, 137, 138, 139, 140, 141, 142, 143, 144, 145, 146, 147, 148, 149, 150, 151, 152, 153, 154, 155, 156, 157, 158, 159, 160] (by decide +kernel) (by decide +kernel)
set_option maxRecDepth 20000 in
theorem gX11_reads_X11_fails : GoodIn wsX11_reads (wsV RX11 133 RX11 yX11_fails wsX11_fails) := goodIn_app (goodIn_of _ (by decide +kernel)) ggX11_reads_X11_fails
theorem dX11_reads_0 : decode cX11_reads 0 = .ok (.aload_n 0, 1) := by decide +kernel
theorem dX11_reads_1 : decode cX11_reads 1 = .ok (.iconst 0, 1) := by decide +kernel
theorem dX11_reads_2 : decode cX11_reads 2 = .ok (.putfield 120, 3) := by decide +kernel
theorem dX11_reads_5 : decode cX11_reads 5 = .ok (.aload_n 0, 1) := by decide +kernel
theorem dX11_reads_6 : decode cX11_reads 6 = .ok (.iconst (-1), 1) := by decide +kernel
theorem dX11_reads_7 : decode cX11_reads 7 = .ok (.putfield 127, 3) := by decide +kernel
theorem dX11_reads_10 : decode cX11_reads 10 = .ok (.aload_n 0, 1) := by decide +kernel
theorem dX11_reads_11 : decode cX11_reads 11 = .ok (.invokevirtual 185, 3) := by decide +kernel
theorem dX11_reads_14 : decode cX11_reads 14 = .ok (.aload_n 0, 1) := by decide +kernel
theorem dX11_reads_15 : decode cX11_reads 15 = .ok (.getfield 127, 3) := by decide +kernel
theorem dX11_reads_18 : decode cX11_reads 18 = .ok (.iconst (-1), 1) := by decide +kernel
theorem dX11_reads_19 : decode cX11_reads 19 = .ok (.if_icmp .ne 29, 3) := by decide +kernel
theorem dX11_reads_22 : decode cX11_reads 22 = .ok (.aload_n 0, 1) := by decide +kernel
theorem dX11_reads_23 : decode cX11_reads 23 = .ok (.invokevirtual 130, 3) := by decide +kernel
theorem dX11_reads_26 : decode cX11_reads 26 = .ok (.bipush 59, 2) := by decide +kernel
theorem dX11_reads_28 : decode cX11_reads 28 = .ok (.if_icmp .ne 20, 3) := by decide +kernel
theorem dX11_reads_31 : decode cX11_reads 31 = .ok (.aload_n 0, 1) := by decide +kernel
theorem dX11_reads_32 : decode cX11_reads 32 = .ok (.dup, 1) := by decide +kernel
theorem dX11_reads_33 : decode cX11_reads 33 = .ok (.getfield 120, 3) := by decide +kernel
theorem dX11_reads_36 : decode cX11_reads 36 = .ok (.iconst 1, 1) := by decide +kernel
theorem dX11_reads_37 : decode cX11_reads 37 = .ok (.iadd, 1) := by decide +kernel
theorem dX11_reads_38 : decode cX11_reads 38 = .ok (.putfield 120, 3) := by decide +kernel
theorem dX11_reads_41 : decode cX11_reads 41 = .ok (.aload_n 0, 1) := by decide +kernel
theorem dX11_reads_42 : decode cX11_reads 42 = .ok (.invokevirtual 185, 3) := by decide +kernel
theorem dX11_reads_45 : decode cX11_reads 45 = .ok (.goto (-31), 3) := by decide +kernel
theorem dX11_reads_48 : decode cX11_reads 48 = .ok (.aload_n 0, 1) := by decide +kernel
theorem dX11_reads_49 : decode cX11_reads 49 = .ok (.getfield 127, 3) := by decide +kernel
theorem dX11_reads_52 : decode cX11_reads 52 = .ok (.iconst (-1), 1) := by decide +kernel
theorem dX11_reads_53 : decode cX11_reads 53 = .ok (.if_icmp .ne 15, 3) := by decide +kernel
theorem dX11_reads_56 : decode cX11_reads 56 = .ok (.aload_n 0, 1) := by decide +kernel
theorem dX11_reads_57 : decode cX11_reads 57 = .ok (.invokevirtual 130, 3) := by decide +kernel
theorem dX11_reads_60 : decode cX11_reads 60 = .ok (.iconst (-1), 1) := by decide +kernel
theorem dX11_reads_61 : decode cX11_reads 61 = .ok (.if_icmp .eq 7, 3) := by decide +kernel
theorem dX11_reads_64 : decode cX11_reads 64 = .ok (.aload_n 0, 1) := by decide +kernel
theorem dX11_reads_65 : decode cX11_reads 65 = .ok (.invokevirtual 133, 3) := by decide +kernel
theorem dX11_reads_68 : decode cX11_reads 68 = .ok (.return_, 1) := by decide +kernel
set_option maxRecDepth 20000 in
theorem ggX11_fault_X11_reads : GoodIn wsX11_fault wsX11_reads := goodIn_r _ [8, 9, 3, 10, 11, 12, 7, 13, 14, 2, 15, 16, 17, 18, 19, 20, 21, 22, 23, 24, 25, 26, 27, 28, 29, 30, 31, 32, 33, 34, 35, 36, 37, 38, 39, 40, 41, 42, 43, 44, 45, 46, 47, 48, 49, 50, 51, 52, 53, 54, 55, 56, 57, 58, 59, 60, 61, 62, 63, 64, 65, 66, 67, 68, 69, 70, 71, 72, 73, 74, 75, 76, 77, 78, 79, 80, 81, 82, 83, 84, 85, 86, 87, 88, 89, 90, 91, 92, 93, 94, 95, 96, 97, 98, 99, 100, 101, 102, 103, 104, 105, 106, 107, 108, 109, 110, 111, 112, 113, 114, 115, 116, 117, 118, 119, 120, 121, 122, 123, 124, 125, 126, 127, 128, 129, 130, 131, 132, 133, 134, 135, 136, 137, 138, 139, 140, 141, 142, 143, 144, 145, 146, 147, 148, 149, 150, 151, 152, 153, 154, 155, 156, 157, 158, 159, 160, 161, 162, 163, 164, 165] (by decide +kernel) (by decide +kernel)
set_option maxRecDepth 20000 in
theorem gX11_fault_X11_reads : GoodIn wsX11_fault (wsV RX11 188 RX11 yX11_reads wsX11_reads) := goodIn_app (goodIn_of _ (by decide +kernel)) ggX11_fault_X11_reads
theorem dX11_fault_0 : decode cX11_fault 0 = .ok (.aload_n 0, 1) := by decide +kernel
theorem dX11_fault_1 : decode cX11_fault 1 = .ok (.iconst 0, 1) := by decide +kernel
theorem dX11_fault_2 : decode cX11_fault 2 = .ok (.putfield 106, 3) := by decide +kernel
theorem dX11_fault_5 : decode cX11_fault 5 = .ok (.aload_n 0, 1) := by decide +kernel
theorem dX11_fault_6 : decode cX11_fault 6 = .ok (.iconst 0, 1) := by decide +kernel
theorem dX11_fault_7 : decode cX11_fault 7 = .ok (.putfield 165, 3) := by decide +kernel
theorem dX11_fault_10 : decode cX11_fault 10 = .ok (.aload_n 0, 1) := by decide +kernel
theorem dX11_fault_11 : decode cX11_fault 11 = .ok (.invokevirtual 188, 3) := by decide +kernel
theorem dX11_fault_14 : decode cX11_fault 14 = .ok (.aload_n 0, 1) := by decide +kernel
theorem dX11_fault_15 : decode cX11_fault 15 = .ok (.getfield 127, 3) := by decide +kernel
theorem dX11_fault_18 : decode cX11_fault 18 = .ok (.ireturn, 1) := by decide +kernel
set_option maxRecDepth 20000 in
theorem ggX11_text_X11_reads : GoodIn wsX11_text wsX11_reads := goodIn_r _ [12, 13, 3, 14, 15, 16, 11, 17, 18, 2, 6, 19, 20, 21, 22, 23, 24, 25, 26, 7, 27, 28, 29, 30, 31, 32, 33, 34, 35, 36, 37, 38, 39, 40, 41, 42, 43, 44, 45, 46, 47, 48, 49, 50, 51, 52, 53, 54, 55, 56, 57, 58, 59, 60, 61, 62, 63, 64, 65, 66, 67, 68, 69, 70, 71, 72, 4, 73, 74, 75, 76, 77, 78, 79, 80, 81, 82, 83, 84, 85, 86, 87, 88, 89, 90, 91, 92, 93, 94, 95, 96, 97, 98, 99, 100, 101, 102, 103, 104, 105, 106, 107, 108, 109, 110, 111, 112, 113, 114, 115, 116, 117, 118, 119, 120, 121, 122, 123, 124, 125, 126, 127, 128, 129, 130, 131, 132, 133, 134, 135, 136, 137, 138, 139, 140, 141, 142, 143, 144, 145, 146, 147, 148, 149, 150, 151, 152, 153, 154, 155, 156, 157, 158, 159, 160, 161, 162, 163, 164, 165, 166] (by decide +kernel) (by decide +kernel)
set_option maxRecDepth 20000 in
theorem gX11_text_X11_reads : GoodIn wsX11_text (wsV RX11 188 RX11 yX11_reads wsX11_reads) := goodIn_app (goodIn_of _ (by decide +kernel)) ggX11_text_X11_reads
theorem dX11_text_0 : decode cX11_text 0 = .ok (.aload_n 0, 1) := by decide +kernel
theorem dX11_text_1 : decode cX11_text 1 = .ok (.iconst 0, 1) := by decide +kernel
theorem dX11_text_2 : decode cX11_text 2 = .ok (.putfield 106, 3) := by decide +kernel
theorem dX11_text_5 : decode cX11_text 5 = .ok (.aload_n 0, 1) := by decide +kernel
theorem dX11_text_6 : decode cX11_text 6 = .ok (.iconst 0, 1) := by decide +kernel
theorem dX11_text_7 : decode cX11_text 7 = .ok (.putfield 165, 3) := by decide +kernel
theorem dX11_text_10 : decode cX11_text 10 = .ok (.aload_n 0, 1) := by decide +kernel
theorem dX11_text_11 : decode cX11_text 11 = .ok (.invokevirtual 188, 3) := by decide +kernel
theorem dX11_text_14 : decode cX11_text 14 = .ok (.aload_n 0, 1) := by decide +kernel
theorem dX11_text_15 : decode cX11_text 15 = .ok (.getfield 127, 3) := by decide +kernel
theorem dX11_text_18 : decode cX11_text 18 = .ok (.iconst (-1), 1) := by decide +kernel
theorem dX11_text_19 : decode cX11_text 19 = .ok (.if_icmp .eq 5, 3) := by decide +kernel
theorem dX11_text_22 : decode cX11_text 22 = .ok (.iconst (-1), 1) := by decide +kernel
theorem dX11_text_23 : decode cX11_text 23 = .ok (.ireturn, 1) := by decide +kernel
theorem dX11_text_24 : decode cX11_text 24 = .ok (.aload_n 0, 1) := by decide +kernel
theorem dX11_text_25 : decode cX11_text 25 = .ok (.iconst 0, 1) := by decide +kernel
theorem dX11_text_26 : decode cX11_text 26 = .ok (.putfield 191, 3) := by decide +kernel
theorem dX11_text_29 : decode cX11_text 29 = .ok (.aload_n 0, 1) := by decide +kernel
theorem dX11_text_30 : decode cX11_text 30 = .ok (.iconst 0, 1) := by decide +kernel
theorem dX11_text_31 : decode cX11_text 31 = .ok (.putfield 194, 3) := by decide +kernel
theorem dX11_text_34 : decode cX11_text 34 = .ok (.aload_n 0, 1) := by decide +kernel
theorem dX11_text_35 : decode cX11_text 35 = .ok (.iconst 0, 1) := by decide +kernel
theorem dX11_text_36 : decode cX11_text 36 = .ok (.putfield 179, 3) := by decide +kernel
theorem dX11_text_39 : decode cX11_text 39 = .ok (.aload_n 0, 1) := by decide +kernel
theorem dX11_text_40 : decode cX11_text 40 = .ok (.iconst 1, 1) := by decide +kernel
theorem dX11_text_41 : decode cX11_text 41 = .ok (.putfield 165, 3) := by decide +kernel
theorem dX11_text_44 : decode cX11_text 44 = .ok (.aload_n 0, 1) := by decide +kernel
theorem dX11_text_45 : decode cX11_text 45 = .ok (.invokevirtual 188, 3) := by decide +kernel
theorem dX11_text_48 : decode cX11_text 48 = .ok (.aload_n 0, 1) := by decide +kernel
theorem dX11_text_49 : decode cX11_text 49 = .ok (.iconst 0, 1) := by decide +kernel
theorem dX11_text_50 : decode cX11_text 50 = .ok (.putfield 165, 3) := by decide +kernel
theorem dX11_text_53 : decode cX11_text 53 = .ok (.aload_n 0, 1) := by decide +kernel
theorem dX11_text_54 : decode cX11_text 54 = .ok (.iconst 0, 1) := by decide +kernel
theorem dX11_text_55 : decode cX11_text 55 = .ok (.putfield 109, 3) := by decide +kernel
theorem dX11_text_58 : decode cX11_text 58 = .ok (.aload_n 0, 1) := by decide +kernel
theorem dX11_text_59 : decode cX11_text 59 = .ok (.getfield 179, 3) := by decide +kernel
theorem dX11_text_62 : decode cX11_text 62 = .ok (.ireturn, 1) := by decide +kernel
theorem dX11_isTet_0 : decode cX11_isTet 0 = .ok (.iload_n 1, 1) := by decide +kernel
theorem dX11_isTet_1 : decode cX11_isTet 1 = .ok (.ifCond .lt 15, 3) := by decide +kernel
theorem dX11_isTet_4 : decode cX11_isTet 4 = .ok (.iload_n 1, 1) := by decide +kernel
theorem dX11_isTet_5 : decode cX11_isTet 5 = .ok (.aload_n 0, 1) := by decide +kernel
theorem dX11_isTet_6 : decode cX11_isTet 6 = .ok (.getfield 191, 3) := by decide +kernel
theorem dX11_isTet_9 : decode cX11_isTet 9 = .ok (.if_icmp .ge 7, 3) := by decide +kernel
theorem dX11_isTet_12 : decode cX11_isTet 12 = .ok (.iconst 1, 1) := by decide +kernel
theorem dX11_isTet_13 : decode cX11_isTet 13 = .ok (.goto 4, 3) := by decide +kernel
theorem dX11_isTet_16 : decode cX11_isTet 16 = .ok (.iconst 0, 1) := by decide +kernel
theorem dX11_isTet_17 : decode cX11_isTet 17 = .ok (.ireturn, 1) := by decide +kernel
theorem dX11_isSolid_0 : decode cX11_isSolid 0 = .ok (.iload_n 0, 1) := by decide +kernel
theorem dX11_isSolid_1 : decode cX11_isSolid 1 = .ok (.ifCond .lt 12, 3) := by decide +kernel
theorem dX11_isSolid_4 : decode cX11_isSolid 4 = .ok (.iload_n 0, 1) := by decide +kernel
theorem dX11_isSolid_5 : decode cX11_isSolid 5 = .ok (.iconst 4, 1) := by decide +kernel
theorem dX11_isSolid_6 : decode cX11_isSolid 6 = .ok (.if_icmp .ge 7, 3) := by decide +kernel
theorem dX11_isSolid_9 : decode cX11_isSolid 9 = .ok (.iconst 1, 1) := by decide +kernel
theorem dX11_isSolid_10 : decode cX11_isSolid 10 = .ok (.goto 4, 3) := by decide +kernel
theorem dX11_isSolid_13 : decode cX11_isSolid 13 = .ok (.iconst 0, 1) := by decide +kernel
theorem dX11_isSolid_14 : decode cX11_isSolid 14 = .ok (.ireturn, 1) := by decide +kernel
theorem dX11_det_0 : decode cX11_det 0 = .ok (.iload_n 0, 1) := by decide +kernel
theorem dX11_det_1 : decode cX11_det 1 = .ok (.iload 4, 2) := by decide +kernel
theorem dX11_det_3 : decode cX11_det 3 = .ok (.iload 8, 2) := by decide +kernel
theorem dX11_det_5 : decode cX11_det 5 = .ok (.imul, 1) := by decide +kernel
theorem dX11_det_6 : decode cX11_det 6 = .ok (.iload 5, 2) := by decide +kernel
theorem dX11_det_8 : decode cX11_det 8 = .ok (.iload 7, 2) := by decide +kernel
theorem dX11_det_10 : decode cX11_det 10 = .ok (.imul, 1) := by decide +kernel
theorem dX11_det_11 : decode cX11_det 11 = .ok (.isub, 1) := by decide +kernel
theorem dX11_det_12 : decode cX11_det 12 = .ok (.imul, 1) := by decide +kernel
theorem dX11_det_13 : decode cX11_det 13 = .ok (.iload_n 1, 1) := by decide +kernel
theorem dX11_det_14 : decode cX11_det 14 = .ok (.iload_n 3, 1) := by decide +kernel
theorem dX11_det_15 : decode cX11_det 15 = .ok (.iload 8, 2) := by decide +kernel
theorem dX11_det_17 : decode cX11_det 17 = .ok (.imul, 1) := by decide +kernel
theorem dX11_det_18 : decode cX11_det 18 = .ok (.iload 5, 2) := by decide +kernel
theorem dX11_det_20 : decode cX11_det 20 = .ok (.iload 6, 2) := by decide +kernel
theorem dX11_det_22 : decode cX11_det 22 = .ok (.imul, 1) := by decide +kernel
theorem dX11_det_23 : decode cX11_det 23 = .ok (.isub, 1) := by decide +kernel
theorem dX11_det_24 : decode cX11_det 24 = .ok (.imul, 1) := by decide +kernel
theorem dX11_det_25 : decode cX11_det 25 = .ok (.isub, 1) := by decide +kernel
theorem dX11_det_26 : decode cX11_det 26 = .ok (.iload_n 2, 1) := by decide +kernel
theorem dX11_det_27 : decode cX11_det 27 = .ok (.iload_n 3, 1) := by decide +kernel
theorem dX11_det_28 : decode cX11_det 28 = .ok (.iload 7, 2) := by decide +kernel
theorem dX11_det_30 : decode cX11_det 30 = .ok (.imul, 1) := by decide +kernel
theorem dX11_det_31 : decode cX11_det 31 = .ok (.iload 4, 2) := by decide +kernel
theorem dX11_det_33 : decode cX11_det 33 = .ok (.iload 6, 2) := by decide +kernel
theorem dX11_det_35 : decode cX11_det 35 = .ok (.imul, 1) := by decide +kernel
theorem dX11_det_36 : decode cX11_det 36 = .ok (.isub, 1) := by decide +kernel
theorem dX11_det_37 : decode cX11_det 37 = .ok (.imul, 1) := by decide +kernel
theorem dX11_det_38 : decode cX11_det 38 = .ok (.iadd, 1) := by decide +kernel
theorem dX11_det_39 : decode cX11_det 39 = .ok (.ireturn, 1) := by decide +kernel
theorem dX11_isEdge_0 : decode cX11_isEdge 0 = .ok (.iload_n 0, 1) := by decide +kernel
theorem dX11_isEdge_1 : decode cX11_isEdge 1 = .ok (.ifCond .lt 13, 3) := by decide +kernel
theorem dX11_isEdge_4 : decode cX11_isEdge 4 = .ok (.iload_n 0, 1) := by decide +kernel
theorem dX11_isEdge_5 : decode cX11_isEdge 5 = .ok (.bipush 6, 2) := by decide +kernel
theorem dX11_isEdge_7 : decode cX11_isEdge 7 = .ok (.if_icmp .ge 7, 3) := by decide +kernel
theorem dX11_isEdge_10 : decode cX11_isEdge 10 = .ok (.iconst 1, 1) := by decide +kernel
theorem dX11_isEdge_11 : decode cX11_isEdge 11 = .ok (.goto 4, 3) := by decide +kernel
theorem dX11_isEdge_14 : decode cX11_isEdge 14 = .ok (.iconst 0, 1) := by decide +kernel
theorem dX11_isEdge_15 : decode cX11_isEdge 15 = .ok (.ireturn, 1) := by decide +kernel
set_option maxRecDepth 20000 in
theorem ggX11_edge_X11_isTet : GoodIn wsX11_edge wsX11_isTet := goodIn_r _ [14, 15, 100, 101, 102, 103, 104, 105, 106, 107, 108, 109, 110, 111, 112, 113, 114, 115, 116, 117, 118, 119, 120, 121, 122, 123, 124, 125, 126, 127, 128, 129, 130, 131, 132, 133, 134, 135, 136, 137, 138, 139, 140, 141, 142, 143, 144, 145, 146, 147, 148, 149, 150, 151] (by decide +kernel) (by decide +kernel)
set_option maxRecDepth 20000 in
theorem gX11_edge_X11_isTet : GoodIn wsX11_edge (wsV RX11 295 RX11 yX11_isTet wsX11_isTet) := goodIn_app (goodIn_of _ (by decide +kernel)) ggX11_edge_X11_isTet
set_option maxRecDepth 20000 in
theorem ggX11_edge_X11_isEdge : GoodIn wsX11_edge wsX11_isEdge := goodIn_r _ [18] (by decide +kernel) (by decide +kernel)
set_option maxRecDepth 20000 in
theorem gX11_edge_X11_isEdge : GoodIn wsX11_edge (va_wsS RX11 298 yX11_isEdge wsX11_isEdge) := goodIn_app (goodIn_of _ (by decide +kernel)) ggX11_edge_X11_isEdge
set_option maxRecDepth 20000 in
theorem ggX11_edge_X11_isIn : GoodIn wsX11_edge wsX11_isIn := goodIn_r _ [21] (by decide +kernel) (by decide +kernel)
set_option maxRecDepth 20000 in
theorem gX11_edge_X11_isIn : GoodIn wsX11_edge (va_wsS RX11 303 yX11_isIn wsX11_isIn) := goodIn_app (goodIn_of _ (by decide +kernel)) ggX11_edge_X11_isIn
set_option maxRecDepth 20000 in
theorem ggX11_edge_X11_laysEdge : GoodIn wsX11_edge wsX11_laysEdge := goodIn_r _ [25, 4, 5, 6, 7, 8, 9, 26, 27, 13, 28, 29, 30, 31, 32, 33, 34, 35, 36, 37, 38, 39, 40, 41, 42, 43, 44, 45, 46, 47, 48, 49, 50, 51, 52, 53, 54, 55, 56, 57, 58, 59, 60, 61, 62, 63, 64, 65, 66, 67, 68, 69, 70, 71, 72, 73, 74, 75, 76, 77, 78, 79, 80, 81, 82, 83, 84, 85, 86, 87, 88, 89, 90, 91, 92, 93, 94, 95, 96, 97, 98, 99, 100, 101, 102, 103, 104, 105, 106, 107, 108, 109, 110, 111, 112, 113, 114, 115, 116, 117, 118, 119, 120, 121, 122, 123, 124, 125, 126, 127, 128, 129, 130, 131, 132, 133, 134, 135, 136, 137, 138, 139, 140, 141, 142, 143, 144, 145, 146, 147, 148, 149, 150, 151] (by decide +kernel) (by decide +kernel)
set_option maxRecDepth 20000 in
theorem gX11_edge_X11_laysEdge : GoodIn wsX11_edge (wsV RX11 308 RX11 yX11_laysEdge wsX11_laysEdge) := goodIn_app (goodIn_of _ (by decide +kernel)) ggX11_edge_X11_laysEdge
theorem dX11_edge_0 : decode cX11_edge 0 = .ok (.aload_n 0, 1) := by decide +kernel
theorem dX11_edge_1 : decode cX11_edge 1 = .ok (.iconst 0, 1) := by decide +kernel
theorem dX11_edge_2 : decode cX11_edge 2 = .ok (.putfield 106, 3) := by decide +kernel
theorem dX11_edge_5 : decode cX11_edge 5 = .ok (.aload_n 0, 1) := by decide +kernel
theorem dX11_edge_6 : decode cX11_edge 6 = .ok (.iload_n 1, 1) := by decide +kernel
theorem dX11_edge_7 : decode cX11_edge 7 = .ok (.invokevirtual 295, 3) := by decide +kernel
theorem dX11_edge_10 : decode cX11_edge 10 = .ok (.ifCond .eq 22, 3) := by decide +kernel
theorem dX11_edge_13 : decode cX11_edge 13 = .ok (.iload_n 2, 1) := by decide +kernel
theorem dX11_edge_14 : decode cX11_edge 14 = .ok (.invokestatic 298, 3) := by decide +kernel
theorem dX11_edge_17 : decode cX11_edge 17 = .ok (.ifCond .eq 15, 3) := by decide +kernel
theorem dX11_edge_20 : decode cX11_edge 20 = .ok (.iload_n 3, 1) := by decide +kernel
theorem dX11_edge_21 : decode cX11_edge 21 = .ok (.i2l, 1) := by decide +kernel
theorem dX11_edge_22 : decode cX11_edge 22 = .ok (.lconst 0, 1) := by decide +kernel
theorem dX11_edge_23 : decode cX11_edge 23 = .ok (.ldc2_w 301, 3) := by decide +kernel
theorem dX11_edge_26 : decode cX11_edge 26 = .ok (.invokestatic 303, 3) := by decide +kernel
theorem dX11_edge_29 : decode cX11_edge 29 = .ok (.ifCond .ne 7, 3) := by decide +kernel
theorem dX11_edge_32 : decode cX11_edge 32 = .ok (.ldc_w 307, 3) := by decide +kernel
theorem dX11_edge_35 : decode cX11_edge 35 = .ok (.ireturn, 1) := by decide +kernel
theorem dX11_edge_36 : decode cX11_edge 36 = .ok (.aload_n 0, 1) := by decide +kernel
theorem dX11_edge_37 : decode cX11_edge 37 = .ok (.iload_n 1, 1) := by decide +kernel
theorem dX11_edge_38 : decode cX11_edge 38 = .ok (.iload_n 2, 1) := by decide +kernel
theorem dX11_edge_39 : decode cX11_edge 39 = .ok (.invokevirtual 308, 3) := by decide +kernel
theorem dX11_edge_42 : decode cX11_edge 42 = .ok (.iload_n 3, 1) := by decide +kernel
theorem dX11_edge_43 : decode cX11_edge 43 = .ok (.tableswitch 58 0 4 #[33, 38, 43, 48, 53], 33) := by decide +kernel
theorem dX11_edge_76 : decode cX11_edge 76 = .ok (.aload_n 0, 1) := by decide +kernel
theorem dX11_edge_77 : decode cX11_edge 77 = .ok (.getfield 252, 3) := by decide +kernel
theorem dX11_edge_80 : decode cX11_edge 80 = .ok (.ireturn, 1) := by decide +kernel
theorem dX11_edge_81 : decode cX11_edge 81 = .ok (.aload_n 0, 1) := by decide +kernel
theorem dX11_edge_82 : decode cX11_edge 82 = .ok (.getfield 237, 3) := by decide +kernel
theorem dX11_edge_85 : decode cX11_edge 85 = .ok (.ireturn, 1) := by decide +kernel
theorem dX11_edge_86 : decode cX11_edge 86 = .ok (.aload_n 0, 1) := by decide +kernel
theorem dX11_edge_87 : decode cX11_edge 87 = .ok (.getfield 234, 3) := by decide +kernel
theorem dX11_edge_90 : decode cX11_edge 90 = .ok (.ireturn, 1) := by decide +kernel
theorem dX11_edge_91 : decode cX11_edge 91 = .ok (.aload_n 0, 1) := by decide +kernel
theorem dX11_edge_92 : decode cX11_edge 92 = .ok (.getfield 240, 3) := by decide +kernel
theorem dX11_edge_95 : decode cX11_edge 95 = .ok (.ireturn, 1) := by decide +kernel
theorem dX11_edge_96 : decode cX11_edge 96 = .ok (.aload_n 0, 1) := by decide +kernel
theorem dX11_edge_97 : decode cX11_edge 97 = .ok (.getfield 271, 3) := by decide +kernel
theorem dX11_edge_100 : decode cX11_edge 100 = .ok (.ireturn, 1) := by decide +kernel
theorem dX11_edge_101 : decode cX11_edge 101 = .ok (.aload_n 0, 1) := by decide +kernel
theorem dX11_edge_102 : decode cX11_edge 102 = .ok (.getfield 274, 3) := by decide +kernel
theorem dX11_edge_105 : decode cX11_edge 105 = .ok (.ireturn, 1) := by decide +kernel
set_option maxRecDepth 20000 in
theorem ggX11_prime_X11_isTet : GoodIn wsX11_prime wsX11_isTet := goodIn_r _ [10, 11, 99, 100, 101, 102, 103, 104, 105, 106, 107, 108, 109, 110, 111, 112, 113, 114, 115, 116, 117, 118, 119, 120, 121, 122, 123, 124, 125, 126, 127, 128, 129, 130, 131, 132, 133, 134, 135, 136, 137, 138, 139, 140, 141, 142, 143, 144, 145, 146, 147, 148, 149, 150] (by decide +kernel) (by decide +kernel)
set_option maxRecDepth 20000 in
theorem gX11_prime_X11_isTet : GoodIn wsX11_prime (wsV RX11 295 RX11 yX11_isTet wsX11_isTet) := goodIn_app (goodIn_of _ (by decide +kernel)) ggX11_prime_X11_isTet
set_option maxRecDepth 20000 in
theorem ggX11_prime_X11_isEdge : GoodIn wsX11_prime wsX11_isEdge := goodIn_r _ [14] (by decide +kernel) (by decide +kernel)
set_option maxRecDepth 20000 in
theorem gX11_prime_X11_isEdge : GoodIn wsX11_prime (va_wsS RX11 298 yX11_isEdge wsX11_isEdge) := goodIn_app (goodIn_of _ (by decide +kernel)) ggX11_prime_X11_isEdge
set_option maxRecDepth 20000 in
theorem ggX11_prime_X11_isIn : GoodIn wsX11_prime wsX11_isIn := goodIn_r _ [17] (by decide +kernel) (by decide +kernel)
set_option maxRecDepth 20000 in
theorem gX11_prime_X11_isIn : GoodIn wsX11_prime (va_wsS RX11 303 yX11_isIn wsX11_isIn) := goodIn_app (goodIn_of _ (by decide +kernel)) ggX11_prime_X11_isIn
set_option maxRecDepth 20000 in
theorem ggX11_prime_X11_laysEdge : GoodIn wsX11_prime wsX11_laysEdge := goodIn_r _ [21, 22, 23, 24, 25, 26, 3, 27, 28, 9, 29, 30, 31, 32, 33, 34, 35, 36, 37, 38, 39, 40, 41, 42, 43, 44, 45, 46, 47, 48, 49, 50, 51, 52, 53, 54, 55, 56, 57, 58, 59, 60, 61, 62, 63, 64, 65, 66, 67, 68, 69, 70, 71, 72, 73, 74, 75, 76, 77, 78, 79, 80, 81, 82, 83, 84, 85, 86, 4, 5, 87, 88, 89, 90, 91, 92, 93, 94, 95, 96, 97, 98, 99, 100, 101, 102, 103, 104, 105, 106, 107, 108, 109, 110, 111, 112, 113, 114, 115, 116, 117, 118, 119, 120, 121, 122, 123, 124, 125, 126, 127, 128, 129, 130, 131, 132, 133, 134, 135, 136, 137, 138, 139, 140, 141, 142, 143, 144, 145, 146, 147, 148, 149, 150] (by decide +kernel) (by decide +kernel)
set_option maxRecDepth 20000 in
theorem gX11_prime_X11_laysEdge : GoodIn wsX11_prime (wsV RX11 308 RX11 yX11_laysEdge wsX11_laysEdge) := goodIn_app (goodIn_of _ (by decide +kernel)) ggX11_prime_X11_laysEdge
theorem dX11_prime_0 : decode cX11_prime 0 = .ok (.aload_n 0, 1) := by decide +kernel
theorem dX11_prime_1 : decode cX11_prime 1 = .ok (.iconst 0, 1) := by decide +kernel
theorem dX11_prime_2 : decode cX11_prime 2 = .ok (.putfield 106, 3) := by decide +kernel
theorem dX11_prime_5 : decode cX11_prime 5 = .ok (.aload_n 0, 1) := by decide +kernel
theorem dX11_prime_6 : decode cX11_prime 6 = .ok (.iload_n 1, 1) := by decide +kernel
theorem dX11_prime_7 : decode cX11_prime 7 = .ok (.invokevirtual 295, 3) := by decide +kernel
theorem dX11_prime_10 : decode cX11_prime 10 = .ok (.ifCond .eq 21, 3) := by decide +kernel
theorem dX11_prime_13 : decode cX11_prime 13 = .ok (.iload_n 2, 1) := by decide +kernel
theorem dX11_prime_14 : decode cX11_prime 14 = .ok (.invokestatic 298, 3) := by decide +kernel
theorem dX11_prime_17 : decode cX11_prime 17 = .ok (.ifCond .eq 14, 3) := by decide +kernel
theorem dX11_prime_20 : decode cX11_prime 20 = .ok (.iload 4, 2) := by decide +kernel
theorem dX11_prime_22 : decode cX11_prime 22 = .ok (.i2l, 1) := by decide +kernel
theorem dX11_prime_23 : decode cX11_prime 23 = .ok (.lconst 0, 1) := by decide +kernel
theorem dX11_prime_24 : decode cX11_prime 24 = .ok (.lconst 1, 1) := by decide +kernel
theorem dX11_prime_25 : decode cX11_prime 25 = .ok (.invokestatic 303, 3) := by decide +kernel
theorem dX11_prime_28 : decode cX11_prime 28 = .ok (.ifCond .ne 7, 3) := by decide +kernel
theorem dX11_prime_31 : decode cX11_prime 31 = .ok (.ldc_w 307, 3) := by decide +kernel
theorem dX11_prime_34 : decode cX11_prime 34 = .ok (.ireturn, 1) := by decide +kernel
theorem dX11_prime_35 : decode cX11_prime 35 = .ok (.aload_n 0, 1) := by decide +kernel
theorem dX11_prime_36 : decode cX11_prime 36 = .ok (.iload_n 1, 1) := by decide +kernel
theorem dX11_prime_37 : decode cX11_prime 37 = .ok (.iload_n 2, 1) := by decide +kernel
theorem dX11_prime_38 : decode cX11_prime 38 = .ok (.invokevirtual 308, 3) := by decide +kernel
theorem dX11_prime_41 : decode cX11_prime 41 = .ok (.iload_n 3, 1) := by decide +kernel
theorem dX11_prime_42 : decode cX11_prime 42 = .ok (.ifCond .lt 11, 3) := by decide +kernel
theorem dX11_prime_45 : decode cX11_prime 45 = .ok (.iload_n 3, 1) := by decide +kernel
theorem dX11_prime_46 : decode cX11_prime 46 = .ok (.aload_n 0, 1) := by decide +kernel
theorem dX11_prime_47 : decode cX11_prime 47 = .ok (.getfield 274, 3) := by decide +kernel
theorem dX11_prime_50 : decode cX11_prime 50 = .ok (.if_icmp .lt 9, 3) := by decide +kernel
theorem dX11_prime_53 : decode cX11_prime 53 = .ok (.ldc_w 307, 3) := by decide +kernel
theorem dX11_prime_56 : decode cX11_prime 56 = .ok (.goto 23, 3) := by decide +kernel
theorem dX11_prime_59 : decode cX11_prime 59 = .ok (.iload 4, 2) := by decide +kernel
theorem dX11_prime_61 : decode cX11_prime 61 = .ok (.ifCond .ne 12, 3) := by decide +kernel
theorem dX11_prime_64 : decode cX11_prime 64 = .ok (.aload_n 0, 1) := by decide +kernel
theorem dX11_prime_65 : decode cX11_prime 65 = .ok (.getfield 20, 3) := by decide +kernel
theorem dX11_prime_68 : decode cX11_prime 68 = .ok (.iload_n 3, 1) := by decide +kernel
theorem dX11_prime_69 : decode cX11_prime 69 = .ok (.iaload, 1) := by decide +kernel
theorem dX11_prime_70 : decode cX11_prime 70 = .ok (.goto 9, 3) := by decide +kernel
theorem dX11_prime_73 : decode cX11_prime 73 = .ok (.aload_n 0, 1) := by decide +kernel
theorem dX11_prime_74 : decode cX11_prime 74 = .ok (.getfield 23, 3) := by decide +kernel
theorem dX11_prime_77 : decode cX11_prime 77 = .ok (.iload_n 3, 1) := by decide +kernel
theorem dX11_prime_78 : decode cX11_prime 78 = .ok (.iaload, 1) := by decide +kernel
theorem dX11_prime_79 : decode cX11_prime 79 = .ok (.ireturn, 1) := by decide +kernel
theorem dX11_begins_0 : decode cX11_begins 0 = .ok (.iload_n 1, 1) := by decide +kernel
theorem dX11_begins_1 : decode cX11_begins 1 = .ok (.ifCond .ne 8, 3) := by decide +kernel
theorem dX11_begins_4 : decode cX11_begins 4 = .ok (.aload_n 0, 1) := by decide +kernel
theorem dX11_begins_5 : decode cX11_begins 5 = .ok (.iconst 0, 1) := by decide +kernel
theorem dX11_begins_6 : decode cX11_begins 6 = .ok (.putfield 312, 3) := by decide +kernel
theorem dX11_begins_9 : decode cX11_begins 9 = .ok (.aload_n 0, 1) := by decide +kernel
theorem dX11_begins_10 : decode cX11_begins 10 = .ok (.getfield 38, 3) := by decide +kernel
theorem dX11_begins_13 : decode cX11_begins 13 = .ok (.iload_n 1, 1) := by decide +kernel
theorem dX11_begins_14 : decode cX11_begins 14 = .ok (.aload_n 0, 1) := by decide +kernel
theorem dX11_begins_15 : decode cX11_begins 15 = .ok (.getfield 312, 3) := by decide +kernel
theorem dX11_begins_18 : decode cX11_begins 18 = .ok (.iastore, 1) := by decide +kernel
theorem dX11_begins_19 : decode cX11_begins 19 = .ok (.return_, 1) := by decide +kernel
theorem dX11_ends_0 : decode cX11_ends 0 = .ok (.aload_n 0, 1) := by decide +kernel
theorem dX11_ends_1 : decode cX11_ends 1 = .ok (.getfield 38, 3) := by decide +kernel
theorem dX11_ends_4 : decode cX11_ends 4 = .ok (.iload_n 1, 1) := by decide +kernel
theorem dX11_ends_5 : decode cX11_ends 5 = .ok (.iaload, 1) := by decide +kernel
theorem dX11_ends_6 : decode cX11_ends 6 = .ok (.istore_n 2, 1) := by decide +kernel
theorem dX11_ends_7 : decode cX11_ends 7 = .ok (.aload_n 0, 1) := by decide +kernel
theorem dX11_ends_8 : decode cX11_ends 8 = .ok (.getfield 38, 3) := by decide +kernel
theorem dX11_ends_11 : decode cX11_ends 11 = .ok (.iload_n 1, 1) := by decide +kernel
theorem dX11_ends_12 : decode cX11_ends 12 = .ok (.iaload, 1) := by decide +kernel
theorem dX11_ends_13 : decode cX11_ends 13 = .ok (.istore_n 3, 1) := by decide +kernel
theorem dX11_ends_14 : decode cX11_ends 14 = .ok (.iload_n 3, 1) := by decide +kernel
theorem dX11_ends_15 : decode cX11_ends 15 = .ok (.aload_n 0, 1) := by decide +kernel
theorem dX11_ends_16 : decode cX11_ends 16 = .ok (.getfield 312, 3) := by decide +kernel
theorem dX11_ends_19 : decode cX11_ends 19 = .ok (.if_icmp .ge 60, 3) := by decide +kernel
theorem dX11_ends_22 : decode cX11_ends 22 = .ok (.aload_n 0, 1) := by decide +kernel
theorem dX11_ends_23 : decode cX11_ends 23 = .ok (.getfield 35, 3) := by decide +kernel
theorem dX11_ends_26 : decode cX11_ends 26 = .ok (.iload_n 3, 1) := by decide +kernel
theorem dX11_ends_27 : decode cX11_ends 27 = .ok (.iaload, 1) := by decide +kernel
theorem dX11_ends_28 : decode cX11_ends 28 = .ok (.ifCond .ne 6, 3) := by decide +kernel
theorem dX11_ends_31 : decode cX11_ends 31 = .ok (.goto 42, 3) := by decide +kernel
theorem dX11_ends_34 : decode cX11_ends 34 = .ok (.aload_n 0, 1) := by decide +kernel
theorem dX11_ends_35 : decode cX11_ends 35 = .ok (.getfield 29, 3) := by decide +kernel
theorem dX11_ends_38 : decode cX11_ends 38 = .ok (.iload_n 2, 1) := by decide +kernel
theorem dX11_ends_39 : decode cX11_ends 39 = .ok (.aload_n 0, 1) := by decide +kernel
theorem dX11_ends_40 : decode cX11_ends 40 = .ok (.getfield 29, 3) := by decide +kernel
theorem dX11_ends_43 : decode cX11_ends 43 = .ok (.iload_n 3, 1) := by decide +kernel
theorem dX11_ends_44 : decode cX11_ends 44 = .ok (.iaload, 1) := by decide +kernel
theorem dX11_ends_45 : decode cX11_ends 45 = .ok (.iastore, 1) := by decide +kernel
theorem dX11_ends_46 : decode cX11_ends 46 = .ok (.aload_n 0, 1) := by decide +kernel
theorem dX11_ends_47 : decode cX11_ends 47 = .ok (.getfield 32, 3) := by decide +kernel
theorem dX11_ends_50 : decode cX11_ends 50 = .ok (.iload_n 2, 1) := by decide +kernel
theorem dX11_ends_51 : decode cX11_ends 51 = .ok (.aload_n 0, 1) := by decide +kernel
theorem dX11_ends_52 : decode cX11_ends 52 = .ok (.getfield 32, 3) := by decide +kernel
theorem dX11_ends_55 : decode cX11_ends 55 = .ok (.iload_n 3, 1) := by decide +kernel
theorem dX11_ends_56 : decode cX11_ends 56 = .ok (.iaload, 1) := by decide +kernel
theorem dX11_ends_57 : decode cX11_ends 57 = .ok (.iastore, 1) := by decide +kernel
theorem dX11_ends_58 : decode cX11_ends 58 = .ok (.aload_n 0, 1) := by decide +kernel
theorem dX11_ends_59 : decode cX11_ends 59 = .ok (.getfield 35, 3) := by decide +kernel
theorem dX11_ends_62 : decode cX11_ends 62 = .ok (.iload_n 2, 1) := by decide +kernel
theorem dX11_ends_63 : decode cX11_ends 63 = .ok (.aload_n 0, 1) := by decide +kernel
theorem dX11_ends_64 : decode cX11_ends 64 = .ok (.getfield 35, 3) := by decide +kernel
theorem dX11_ends_67 : decode cX11_ends 67 = .ok (.iload_n 3, 1) := by decide +kernel
theorem dX11_ends_68 : decode cX11_ends 68 = .ok (.iaload, 1) := by decide +kernel
theorem dX11_ends_69 : decode cX11_ends 69 = .ok (.iastore, 1) := by decide +kernel
theorem dX11_ends_70 : decode cX11_ends 70 = .ok (.iinc 2 1, 3) := by decide +kernel
theorem dX11_ends_73 : decode cX11_ends 73 = .ok (.iinc 3 1, 3) := by decide +kernel
theorem dX11_ends_76 : decode cX11_ends 76 = .ok (.goto (-62), 3) := by decide +kernel
theorem dX11_ends_79 : decode cX11_ends 79 = .ok (.aload_n 0, 1) := by decide +kernel
theorem dX11_ends_80 : decode cX11_ends 80 = .ok (.iload_n 2, 1) := by decide +kernel
theorem dX11_ends_81 : decode cX11_ends 81 = .ok (.putfield 312, 3) := by decide +kernel
theorem dX11_ends_84 : decode cX11_ends 84 = .ok (.aload_n 0, 1) := by decide +kernel
theorem dX11_ends_85 : decode cX11_ends 85 = .ok (.getfield 41, 3) := by decide +kernel
theorem dX11_ends_88 : decode cX11_ends 88 = .ok (.iload_n 1, 1) := by decide +kernel
theorem dX11_ends_89 : decode cX11_ends 89 = .ok (.iload_n 2, 1) := by decide +kernel
theorem dX11_ends_90 : decode cX11_ends 90 = .ok (.aload_n 0, 1) := by decide +kernel
theorem dX11_ends_91 : decode cX11_ends 91 = .ok (.getfield 38, 3) := by decide +kernel
theorem dX11_ends_94 : decode cX11_ends 94 = .ok (.iload_n 1, 1) := by decide +kernel
theorem dX11_ends_95 : decode cX11_ends 95 = .ok (.iaload, 1) := by decide +kernel
theorem dX11_ends_96 : decode cX11_ends 96 = .ok (.isub, 1) := by decide +kernel
theorem dX11_ends_97 : decode cX11_ends 97 = .ok (.iastore, 1) := by decide +kernel
theorem dX11_ends_98 : decode cX11_ends 98 = .ok (.return_, 1) := by decide +kernel
set_option maxRecDepth 20000 in
theorem ggX11_laysSum_X11_begins : GoodIn wsX11_laysSum wsX11_begins := goodIn_r _ [7, 8, 9, 113, 114, 115, 116, 117, 118, 119, 120, 121, 122, 123, 124, 125, 126, 127, 128, 129, 130, 131, 132, 133, 134, 135, 136, 137, 138, 139, 140, 141, 142, 143, 144, 145, 146, 147, 148, 149, 150, 151, 152, 153, 154, 155, 156, 157, 158, 159, 160, 161, 162, 163, 164] (by decide +kernel) (by decide +kernel)
set_option maxRecDepth 20000 in
theorem gX11_laysSum_X11_begins : GoodIn wsX11_laysSum (wsV RX11 322 RX11 yX11_begins wsX11_begins) := goodIn_app (goodIn_of _ (by decide +kernel)) ggX11_laysSum_X11_begins
set_option maxRecDepth 20000 in
theorem ggX11_laysSum_X11_laysEdge : GoodIn wsX11_laysSum wsX11_laysEdge := goodIn_r _ [13, 14, 15, 16, 17, 18, 19, 20, 21, 6, 22, 23, 24, 25, 26, 27, 28, 29, 30, 31, 32, 33, 2, 34, 35, 36, 37, 38, 39, 40, 41, 42, 43, 44, 45, 46, 47, 48, 49, 50, 51, 52, 53, 54, 55, 56, 57, 58, 59, 60, 61, 62, 63, 64, 65, 66, 67, 68, 69, 70, 71, 72, 73, 74, 75, 76, 77, 78, 79, 80, 81, 82, 83, 84, 85, 86, 87, 88, 89, 90, 91, 92, 113, 114, 115, 116, 117, 118, 119, 120, 121, 122, 123, 124, 125, 126, 127, 128, 129, 130, 131, 132, 133, 134, 135, 136, 137, 138, 139, 140, 141, 142, 143, 144, 145, 146, 147, 148, 149, 150, 151, 152, 153, 154, 155, 156, 157, 158, 159, 160, 161, 162, 163, 164] (by decide +kernel) (by decide +kernel)
set_option maxRecDepth 20000 in
theorem gX11_laysSum_X11_laysEdge : GoodIn wsX11_laysSum (wsV RX11 308 RX11 yX11_laysEdge wsX11_laysEdge) := goodIn_app (goodIn_of _ (by decide +kernel)) ggX11_laysSum_X11_laysEdge
set_option maxRecDepth 20000 in
theorem ggX11_laysSum_X11_addsEdge : GoodIn wsX11_laysSum wsX11_addsEdge := goodIn_r _ [96, 19, 15, 79, 14, 80, 97, 98, 99, 6, 100, 8, 101, 102, 103, 104, 105, 106, 107, 9, 113, 114, 115, 116, 117, 118, 119, 120, 121, 122, 123, 124, 125, 126, 127, 128, 129, 130, 131, 132, 133, 134, 135, 136, 137, 138, 139, 140, 141, 142, 143, 144, 145, 146, 147, 148, 149, 150, 151, 152, 153, 154, 155, 156, 157, 158, 159, 160, 161, 162, 163, 164] (by decide +kernel) (by decide +kernel)
set_option maxRecDepth 20000 in
theorem gX11_laysSum_X11_addsEdge : GoodIn wsX11_laysSum (wsV RX11 325 RX11 yX11_addsEdge wsX11_addsEdge) := goodIn_app (goodIn_of _ (by decide +kernel)) ggX11_laysSum_X11_addsEdge
set_option maxRecDepth 20000 in
theorem ggX11_laysSum_X11_ends : GoodIn wsX11_laysSum wsX11_ends := goodIn_r _ [111, 9, 8, 103, 101, 102, 112, 113, 114, 115, 116, 117, 118, 119, 120, 121, 122, 123, 124, 125, 126, 127, 128, 129, 130, 131, 132, 133, 134, 135, 136, 137, 138, 139, 140, 141, 142, 143, 144, 145, 146, 147, 148, 149, 150, 151, 152, 153, 154, 155, 156, 157, 158, 159, 160, 161, 162, 163, 164] (by decide +kernel) (by decide +kernel)
set_option maxRecDepth 20000 in
theorem gX11_laysSum_X11_ends : GoodIn wsX11_laysSum (wsV RX11 329 RX11 yX11_ends wsX11_ends) := goodIn_app (goodIn_of _ (by decide +kernel)) ggX11_laysSum_X11_ends
theorem dX11_laysSum_0 : decode cX11_laysSum 0 = .ok (.aload_n 0, 1) := by decide +kernel
theorem dX11_laysSum_1 : decode cX11_laysSum 1 = .ok (.iload_n 1, 1) := by decide +kernel
theorem dX11_laysSum_2 : decode cX11_laysSum 2 = .ok (.invokevirtual 322, 3) := by decide +kernel
theorem dX11_laysSum_5 : decode cX11_laysSum 5 = .ok (.iconst 0, 1) := by decide +kernel
theorem dX11_laysSum_6 : decode cX11_laysSum 6 = .ok (.istore_n 3, 1) := by decide +kernel
theorem dX11_laysSum_7 : decode cX11_laysSum 7 = .ok (.iload_n 3, 1) := by decide +kernel
theorem dX11_laysSum_8 : decode cX11_laysSum 8 = .ok (.aload_n 0, 1) := by decide +kernel
theorem dX11_laysSum_9 : decode cX11_laysSum 9 = .ok (.getfield 191, 3) := by decide +kernel
theorem dX11_laysSum_12 : decode cX11_laysSum 12 = .ok (.if_icmp .ge 54, 3) := by decide +kernel
theorem dX11_laysSum_15 : decode cX11_laysSum 15 = .ok (.aload_n 0, 1) := by decide +kernel
theorem dX11_laysSum_16 : decode cX11_laysSum 16 = .ok (.getfield 17, 3) := by decide +kernel
theorem dX11_laysSum_19 : decode cX11_laysSum 19 = .ok (.bipush 13, 2) := by decide +kernel
theorem dX11_laysSum_21 : decode cX11_laysSum 21 = .ok (.iload_n 3, 1) := by decide +kernel
theorem dX11_laysSum_22 : decode cX11_laysSum 22 = .ok (.imul, 1) := by decide +kernel
theorem dX11_laysSum_23 : decode cX11_laysSum 23 = .ok (.iaload, 1) := by decide +kernel
theorem dX11_laysSum_24 : decode cX11_laysSum 24 = .ok (.iload_n 2, 1) := by decide +kernel
theorem dX11_laysSum_25 : decode cX11_laysSum 25 = .ok (.if_icmp .eq 6, 3) := by decide +kernel
theorem dX11_laysSum_28 : decode cX11_laysSum 28 = .ok (.goto 32, 3) := by decide +kernel
theorem dX11_laysSum_31 : decode cX11_laysSum 31 = .ok (.iconst 0, 1) := by decide +kernel
theorem dX11_laysSum_32 : decode cX11_laysSum 32 = .ok (.istore 4, 2) := by decide +kernel
theorem dX11_laysSum_34 : decode cX11_laysSum 34 = .ok (.iload 4, 2) := by decide +kernel
theorem dX11_laysSum_36 : decode cX11_laysSum 36 = .ok (.bipush 6, 2) := by decide +kernel
theorem dX11_laysSum_38 : decode cX11_laysSum 38 = .ok (.if_icmp .ge 22, 3) := by decide +kernel
theorem dX11_laysSum_41 : decode cX11_laysSum 41 = .ok (.aload_n 0, 1) := by decide +kernel
theorem dX11_laysSum_42 : decode cX11_laysSum 42 = .ok (.iload_n 3, 1) := by decide +kernel
theorem dX11_laysSum_43 : decode cX11_laysSum 43 = .ok (.iload 4, 2) := by decide +kernel
theorem dX11_laysSum_45 : decode cX11_laysSum 45 = .ok (.invokevirtual 308, 3) := by decide +kernel
theorem dX11_laysSum_48 : decode cX11_laysSum 48 = .ok (.aload_n 0, 1) := by decide +kernel
theorem dX11_laysSum_49 : decode cX11_laysSum 49 = .ok (.iload_n 1, 1) := by decide +kernel
theorem dX11_laysSum_50 : decode cX11_laysSum 50 = .ok (.iconst 1, 1) := by decide +kernel
theorem dX11_laysSum_51 : decode cX11_laysSum 51 = .ok (.invokevirtual 325, 3) := by decide +kernel
theorem dX11_laysSum_54 : decode cX11_laysSum 54 = .ok (.iinc 4 1, 3) := by decide +kernel
theorem dX11_laysSum_57 : decode cX11_laysSum 57 = .ok (.goto (-23), 3) := by decide +kernel
theorem dX11_laysSum_60 : decode cX11_laysSum 60 = .ok (.iinc 3 1, 3) := by decide +kernel
theorem dX11_laysSum_63 : decode cX11_laysSum 63 = .ok (.goto (-56), 3) := by decide +kernel
theorem dX11_laysSum_66 : decode cX11_laysSum 66 = .ok (.aload_n 0, 1) := by decide +kernel
theorem dX11_laysSum_67 : decode cX11_laysSum 67 = .ok (.iload_n 1, 1) := by decide +kernel
theorem dX11_laysSum_68 : decode cX11_laysSum 68 = .ok (.invokevirtual 329, 3) := by decide +kernel
theorem dX11_laysSum_71 : decode cX11_laysSum 71 = .ok (.return_, 1) := by decide +kernel
theorem dX11_amountOf_0 : decode cX11_amountOf 0 = .ok (.aload_n 0, 1) := by decide +kernel
theorem dX11_amountOf_1 : decode cX11_amountOf 1 = .ok (.getfield 38, 3) := by decide +kernel
theorem dX11_amountOf_4 : decode cX11_amountOf 4 = .ok (.iload_n 1, 1) := by decide +kernel
theorem dX11_amountOf_5 : decode cX11_amountOf 5 = .ok (.iaload, 1) := by decide +kernel
theorem dX11_amountOf_6 : decode cX11_amountOf 6 = .ok (.istore 4, 2) := by decide +kernel
theorem dX11_amountOf_8 : decode cX11_amountOf 8 = .ok (.iload 4, 2) := by decide +kernel
theorem dX11_amountOf_10 : decode cX11_amountOf 10 = .ok (.aload_n 0, 1) := by decide +kernel
theorem dX11_amountOf_11 : decode cX11_amountOf 11 = .ok (.getfield 38, 3) := by decide +kernel
theorem dX11_amountOf_14 : decode cX11_amountOf 14 = .ok (.iload_n 1, 1) := by decide +kernel
theorem dX11_amountOf_15 : decode cX11_amountOf 15 = .ok (.iaload, 1) := by decide +kernel
theorem dX11_amountOf_16 : decode cX11_amountOf 16 = .ok (.aload_n 0, 1) := by decide +kernel
theorem dX11_amountOf_17 : decode cX11_amountOf 17 = .ok (.getfield 41, 3) := by decide +kernel
theorem dX11_amountOf_20 : decode cX11_amountOf 20 = .ok (.iload_n 1, 1) := by decide +kernel
theorem dX11_amountOf_21 : decode cX11_amountOf 21 = .ok (.iaload, 1) := by decide +kernel
theorem dX11_amountOf_22 : decode cX11_amountOf 22 = .ok (.iadd, 1) := by decide +kernel
theorem dX11_amountOf_23 : decode cX11_amountOf 23 = .ok (.if_icmp .ge 39, 3) := by decide +kernel
theorem dX11_amountOf_26 : decode cX11_amountOf 26 = .ok (.aload_n 0, 1) := by decide +kernel
theorem dX11_amountOf_27 : decode cX11_amountOf 27 = .ok (.getfield 29, 3) := by decide +kernel
theorem dX11_amountOf_30 : decode cX11_amountOf 30 = .ok (.iload 4, 2) := by decide +kernel
theorem dX11_amountOf_32 : decode cX11_amountOf 32 = .ok (.iaload, 1) := by decide +kernel
theorem dX11_amountOf_33 : decode cX11_amountOf 33 = .ok (.iload_n 2, 1) := by decide +kernel
theorem dX11_amountOf_34 : decode cX11_amountOf 34 = .ok (.if_icmp .ne 22, 3) := by decide +kernel
theorem dX11_amountOf_37 : decode cX11_amountOf 37 = .ok (.aload_n 0, 1) := by decide +kernel
theorem dX11_amountOf_38 : decode cX11_amountOf 38 = .ok (.getfield 32, 3) := by decide +kernel
theorem dX11_amountOf_41 : decode cX11_amountOf 41 = .ok (.iload 4, 2) := by decide +kernel
theorem dX11_amountOf_43 : decode cX11_amountOf 43 = .ok (.iaload, 1) := by decide +kernel
theorem dX11_amountOf_44 : decode cX11_amountOf 44 = .ok (.iload_n 3, 1) := by decide +kernel
theorem dX11_amountOf_45 : decode cX11_amountOf 45 = .ok (.if_icmp .ne 11, 3) := by decide +kernel
theorem dX11_amountOf_48 : decode cX11_amountOf 48 = .ok (.aload_n 0, 1) := by decide +kernel
theorem dX11_amountOf_49 : decode cX11_amountOf 49 = .ok (.getfield 35, 3) := by decide +kernel
theorem dX11_amountOf_52 : decode cX11_amountOf 52 = .ok (.iload 4, 2) := by decide +kernel
theorem dX11_amountOf_54 : decode cX11_amountOf 54 = .ok (.iaload, 1) := by decide +kernel
theorem dX11_amountOf_55 : decode cX11_amountOf 55 = .ok (.ireturn, 1) := by decide +kernel
theorem dX11_amountOf_56 : decode cX11_amountOf 56 = .ok (.iinc 4 1, 3) := by decide +kernel
theorem dX11_amountOf_59 : decode cX11_amountOf 59 = .ok (.goto (-51), 3) := by decide +kernel
theorem dX11_amountOf_62 : decode cX11_amountOf 62 = .ok (.iconst 0, 1) := by decide +kernel
theorem dX11_amountOf_63 : decode cX11_amountOf 63 = .ok (.ireturn, 1) := by decide +kernel
set_option maxRecDepth 20000 in
theorem ggX11_volume_X11_six : GoodIn wsX11_volume wsX11_six := goodIn_r _ [7, 8, 9, 10, 11, 12, 13, 14, 6, 15, 16, 17, 18, 19, 20, 21, 22, 23, 2, 24, 25, 26, 27, 28, 29, 30, 31, 32, 33, 34, 35, 36, 37, 38, 39, 40, 41, 42, 43, 44, 45, 46, 47, 48, 49, 50, 51, 52, 53, 54, 55, 56, 57, 58, 59, 60, 61, 62, 63, 64, 65, 66, 67, 68, 69, 70, 71, 72, 73, 74, 75, 76, 77, 78, 79, 80, 81] (by decide +kernel) (by decide +kernel)
set_option maxRecDepth 20000 in
theorem gX11_volume_X11_six : GoodIn wsX11_volume (wsV RX11 261 RX11 yX11_six wsX11_six) := goodIn_app (goodIn_of _ (by decide +kernel)) ggX11_volume_X11_six
theorem dX11_volume_0 : decode cX11_volume 0 = .ok (.iconst 0, 1) := by decide +kernel
theorem dX11_volume_1 : decode cX11_volume 1 = .ok (.istore_n 2, 1) := by decide +kernel
theorem dX11_volume_2 : decode cX11_volume 2 = .ok (.iconst 0, 1) := by decide +kernel
theorem dX11_volume_3 : decode cX11_volume 3 = .ok (.istore_n 3, 1) := by decide +kernel
theorem dX11_volume_4 : decode cX11_volume 4 = .ok (.iload_n 3, 1) := by decide +kernel
theorem dX11_volume_5 : decode cX11_volume 5 = .ok (.aload_n 0, 1) := by decide +kernel
theorem dX11_volume_6 : decode cX11_volume 6 = .ok (.getfield 191, 3) := by decide +kernel
theorem dX11_volume_9 : decode cX11_volume 9 = .ok (.if_icmp .ge 34, 3) := by decide +kernel
theorem dX11_volume_12 : decode cX11_volume 12 = .ok (.iload_n 2, 1) := by decide +kernel
theorem dX11_volume_13 : decode cX11_volume 13 = .ok (.aload_n 0, 1) := by decide +kernel
theorem dX11_volume_14 : decode cX11_volume 14 = .ok (.getfield 17, 3) := by decide +kernel
theorem dX11_volume_17 : decode cX11_volume 17 = .ok (.bipush 13, 2) := by decide +kernel
theorem dX11_volume_19 : decode cX11_volume 19 = .ok (.iload_n 3, 1) := by decide +kernel
theorem dX11_volume_20 : decode cX11_volume 20 = .ok (.imul, 1) := by decide +kernel
theorem dX11_volume_21 : decode cX11_volume 21 = .ok (.iaload, 1) := by decide +kernel
theorem dX11_volume_22 : decode cX11_volume 22 = .ok (.iload_n 1, 1) := by decide +kernel
theorem dX11_volume_23 : decode cX11_volume 23 = .ok (.if_icmp .ne 11, 3) := by decide +kernel
theorem dX11_volume_26 : decode cX11_volume 26 = .ok (.aload_n 0, 1) := by decide +kernel
theorem dX11_volume_27 : decode cX11_volume 27 = .ok (.iload_n 3, 1) := by decide +kernel
theorem dX11_volume_28 : decode cX11_volume 28 = .ok (.invokevirtual 261, 3) := by decide +kernel
theorem dX11_volume_31 : decode cX11_volume 31 = .ok (.goto 4, 3) := by decide +kernel
theorem dX11_volume_34 : decode cX11_volume 34 = .ok (.iconst 0, 1) := by decide +kernel
theorem dX11_volume_35 : decode cX11_volume 35 = .ok (.iadd, 1) := by decide +kernel
theorem dX11_volume_36 : decode cX11_volume 36 = .ok (.istore_n 2, 1) := by decide +kernel
theorem dX11_volume_37 : decode cX11_volume 37 = .ok (.iinc 3 1, 3) := by decide +kernel
theorem dX11_volume_40 : decode cX11_volume 40 = .ok (.goto (-36), 3) := by decide +kernel
theorem dX11_volume_43 : decode cX11_volume 43 = .ok (.iload_n 2, 1) := by decide +kernel
theorem dX11_volume_44 : decode cX11_volume 44 = .ok (.ireturn, 1) := by decide +kernel
theorem dX11_tetsOf_0 : decode cX11_tetsOf 0 = .ok (.iconst 0, 1) := by decide +kernel
theorem dX11_tetsOf_1 : decode cX11_tetsOf 1 = .ok (.istore_n 2, 1) := by decide +kernel
theorem dX11_tetsOf_2 : decode cX11_tetsOf 2 = .ok (.iconst 0, 1) := by decide +kernel
theorem dX11_tetsOf_3 : decode cX11_tetsOf 3 = .ok (.istore_n 3, 1) := by decide +kernel
theorem dX11_tetsOf_4 : decode cX11_tetsOf 4 = .ok (.iload_n 3, 1) := by decide +kernel
theorem dX11_tetsOf_5 : decode cX11_tetsOf 5 = .ok (.aload_n 0, 1) := by decide +kernel
theorem dX11_tetsOf_6 : decode cX11_tetsOf 6 = .ok (.getfield 191, 3) := by decide +kernel
theorem dX11_tetsOf_9 : decode cX11_tetsOf 9 = .ok (.if_icmp .ge 30, 3) := by decide +kernel
theorem dX11_tetsOf_12 : decode cX11_tetsOf 12 = .ok (.iload_n 2, 1) := by decide +kernel
theorem dX11_tetsOf_13 : decode cX11_tetsOf 13 = .ok (.aload_n 0, 1) := by decide +kernel
theorem dX11_tetsOf_14 : decode cX11_tetsOf 14 = .ok (.getfield 17, 3) := by decide +kernel
theorem dX11_tetsOf_17 : decode cX11_tetsOf 17 = .ok (.bipush 13, 2) := by decide +kernel
theorem dX11_tetsOf_19 : decode cX11_tetsOf 19 = .ok (.iload_n 3, 1) := by decide +kernel
theorem dX11_tetsOf_20 : decode cX11_tetsOf 20 = .ok (.imul, 1) := by decide +kernel
theorem dX11_tetsOf_21 : decode cX11_tetsOf 21 = .ok (.iaload, 1) := by decide +kernel
theorem dX11_tetsOf_22 : decode cX11_tetsOf 22 = .ok (.iload_n 1, 1) := by decide +kernel
theorem dX11_tetsOf_23 : decode cX11_tetsOf 23 = .ok (.if_icmp .ne 7, 3) := by decide +kernel
theorem dX11_tetsOf_26 : decode cX11_tetsOf 26 = .ok (.iconst 1, 1) := by decide +kernel
theorem dX11_tetsOf_27 : decode cX11_tetsOf 27 = .ok (.goto 4, 3) := by decide +kernel
theorem dX11_tetsOf_30 : decode cX11_tetsOf 30 = .ok (.iconst 0, 1) := by decide +kernel
theorem dX11_tetsOf_31 : decode cX11_tetsOf 31 = .ok (.iadd, 1) := by decide +kernel
theorem dX11_tetsOf_32 : decode cX11_tetsOf 32 = .ok (.istore_n 2, 1) := by decide +kernel
theorem dX11_tetsOf_33 : decode cX11_tetsOf 33 = .ok (.iinc 3 1, 3) := by decide +kernel
theorem dX11_tetsOf_36 : decode cX11_tetsOf 36 = .ok (.goto (-32), 3) := by decide +kernel
theorem dX11_tetsOf_39 : decode cX11_tetsOf 39 = .ok (.iload_n 2, 1) := by decide +kernel
theorem dX11_tetsOf_40 : decode cX11_tetsOf 40 = .ok (.ireturn, 1) := by decide +kernel
set_option maxRecDepth 20000 in
theorem ggX11_edgesOf_X11_laysEdge : GoodIn wsX11_edgesOf wsX11_laysEdge := goodIn_r _ [8, 9, 10, 11, 12, 3, 13, 14, 15, 7, 16, 17, 18, 19, 20, 21, 22, 23, 24, 25, 26, 27, 2, 28, 29, 30, 31, 32, 33, 34, 35, 36, 37, 38, 39, 40, 41, 42, 43, 44, 45, 46, 47, 48, 49, 50, 51, 52, 53, 54, 55, 56, 57, 58, 59, 60, 61, 62, 63, 64, 65, 66, 67, 68, 69, 70, 71, 72, 73, 74, 75, 76, 77, 78, 79, 80, 81, 82, 83, 84, 85, 86, 87, 88, 89, 90, 91, 92, 93, 94, 95, 96, 97, 98, 99, 100, 101, 102, 103, 104, 105, 106, 107, 108, 109, 110, 111, 112, 113, 114, 115, 116, 117, 118, 119, 120, 121, 122, 123, 124, 125, 126, 127, 128, 129, 130, 131, 132, 133, 134, 135, 136, 137, 138] (by decide +kernel) (by decide +kernel)
set_option maxRecDepth 20000 in
theorem gX11_edgesOf_X11_laysEdge : GoodIn wsX11_edgesOf (wsV RX11 308 RX11 yX11_laysEdge wsX11_laysEdge) := goodIn_app (goodIn_of _ (by decide +kernel)) ggX11_edgesOf_X11_laysEdge
theorem dX11_edgesOf_0 : decode cX11_edgesOf 0 = .ok (.iconst 0, 1) := by decide +kernel
theorem dX11_edgesOf_1 : decode cX11_edgesOf 1 = .ok (.istore_n 3, 1) := by decide +kernel
theorem dX11_edgesOf_2 : decode cX11_edgesOf 2 = .ok (.iconst 0, 1) := by decide +kernel
theorem dX11_edgesOf_3 : decode cX11_edgesOf 3 = .ok (.istore 4, 2) := by decide +kernel
theorem dX11_edgesOf_5 : decode cX11_edgesOf 5 = .ok (.iload 4, 2) := by decide +kernel
theorem dX11_edgesOf_7 : decode cX11_edgesOf 7 = .ok (.aload_n 0, 1) := by decide +kernel
theorem dX11_edgesOf_8 : decode cX11_edgesOf 8 = .ok (.getfield 191, 3) := by decide +kernel
theorem dX11_edgesOf_11 : decode cX11_edgesOf 11 = .ok (.if_icmp .ge 80, 3) := by decide +kernel
theorem dX11_edgesOf_14 : decode cX11_edgesOf 14 = .ok (.iconst 0, 1) := by decide +kernel
theorem dX11_edgesOf_15 : decode cX11_edgesOf 15 = .ok (.istore 5, 2) := by decide +kernel
theorem dX11_edgesOf_17 : decode cX11_edgesOf 17 = .ok (.iload 5, 2) := by decide +kernel
theorem dX11_edgesOf_19 : decode cX11_edgesOf 19 = .ok (.bipush 6, 2) := by decide +kernel
theorem dX11_edgesOf_21 : decode cX11_edgesOf 21 = .ok (.if_icmp .ge 64, 3) := by decide +kernel
theorem dX11_edgesOf_24 : decode cX11_edgesOf 24 = .ok (.iload_n 1, 1) := by decide +kernel
theorem dX11_edgesOf_25 : decode cX11_edgesOf 25 = .ok (.iconst (-1), 1) := by decide +kernel
theorem dX11_edgesOf_26 : decode cX11_edgesOf 26 = .ok (.if_icmp .eq 20, 3) := by decide +kernel
theorem dX11_edgesOf_29 : decode cX11_edgesOf 29 = .ok (.aload_n 0, 1) := by decide +kernel
theorem dX11_edgesOf_30 : decode cX11_edgesOf 30 = .ok (.getfield 17, 3) := by decide +kernel
theorem dX11_edgesOf_33 : decode cX11_edgesOf 33 = .ok (.bipush 13, 2) := by decide +kernel
theorem dX11_edgesOf_35 : decode cX11_edgesOf 35 = .ok (.iload 4, 2) := by decide +kernel
theorem dX11_edgesOf_37 : decode cX11_edgesOf 37 = .ok (.imul, 1) := by decide +kernel
theorem dX11_edgesOf_38 : decode cX11_edgesOf 38 = .ok (.iaload, 1) := by decide +kernel
theorem dX11_edgesOf_39 : decode cX11_edgesOf 39 = .ok (.iload_n 1, 1) := by decide +kernel
theorem dX11_edgesOf_40 : decode cX11_edgesOf 40 = .ok (.if_icmp .eq 6, 3) := by decide +kernel
theorem dX11_edgesOf_43 : decode cX11_edgesOf 43 = .ok (.goto 36, 3) := by decide +kernel
theorem dX11_edgesOf_46 : decode cX11_edgesOf 46 = .ok (.aload_n 0, 1) := by decide +kernel
theorem dX11_edgesOf_47 : decode cX11_edgesOf 47 = .ok (.iload 4, 2) := by decide +kernel
theorem dX11_edgesOf_49 : decode cX11_edgesOf 49 = .ok (.iload 5, 2) := by decide +kernel
theorem dX11_edgesOf_51 : decode cX11_edgesOf 51 = .ok (.invokevirtual 308, 3) := by decide +kernel
theorem dX11_edgesOf_54 : decode cX11_edgesOf 54 = .ok (.iload_n 3, 1) := by decide +kernel
theorem dX11_edgesOf_55 : decode cX11_edgesOf 55 = .ok (.aload_n 0, 1) := by decide +kernel
theorem dX11_edgesOf_56 : decode cX11_edgesOf 56 = .ok (.getfield 271, 3) := by decide +kernel
theorem dX11_edgesOf_59 : decode cX11_edgesOf 59 = .ok (.iconst (-1), 1) := by decide +kernel
theorem dX11_edgesOf_60 : decode cX11_edgesOf 60 = .ok (.if_icmp .eq 7, 3) := by decide +kernel
theorem dX11_edgesOf_63 : decode cX11_edgesOf 63 = .ok (.iconst 1, 1) := by decide +kernel
theorem dX11_edgesOf_64 : decode cX11_edgesOf 64 = .ok (.goto 4, 3) := by decide +kernel
theorem dX11_edgesOf_67 : decode cX11_edgesOf 67 = .ok (.iconst 0, 1) := by decide +kernel
theorem dX11_edgesOf_68 : decode cX11_edgesOf 68 = .ok (.iload_n 2, 1) := by decide +kernel
theorem dX11_edgesOf_69 : decode cX11_edgesOf 69 = .ok (.if_icmp .ne 7, 3) := by decide +kernel
theorem dX11_edgesOf_72 : decode cX11_edgesOf 72 = .ok (.iconst 1, 1) := by decide +kernel
theorem dX11_edgesOf_73 : decode cX11_edgesOf 73 = .ok (.goto 4, 3) := by decide +kernel
theorem dX11_edgesOf_76 : decode cX11_edgesOf 76 = .ok (.iconst 0, 1) := by decide +kernel
theorem dX11_edgesOf_77 : decode cX11_edgesOf 77 = .ok (.iadd, 1) := by decide +kernel
theorem dX11_edgesOf_78 : decode cX11_edgesOf 78 = .ok (.istore_n 3, 1) := by decide +kernel
theorem dX11_edgesOf_79 : decode cX11_edgesOf 79 = .ok (.iinc 5 1, 3) := by decide +kernel
theorem dX11_edgesOf_82 : decode cX11_edgesOf 82 = .ok (.goto (-65), 3) := by decide +kernel
theorem dX11_edgesOf_85 : decode cX11_edgesOf 85 = .ok (.iinc 4 1, 3) := by decide +kernel
theorem dX11_edgesOf_88 : decode cX11_edgesOf 88 = .ok (.goto (-83), 3) := by decide +kernel
theorem dX11_edgesOf_91 : decode cX11_edgesOf 91 = .ok (.iload_n 3, 1) := by decide +kernel
theorem dX11_edgesOf_92 : decode cX11_edgesOf 92 = .ok (.ireturn, 1) := by decide +kernel
set_option maxRecDepth 20000 in
theorem ggX11_solid_X11_isSolid : GoodIn wsX11_solid wsX11_isSolid := goodIn_r _ [7] (by decide +kernel) (by decide +kernel)
set_option maxRecDepth 20000 in
theorem gX11_solid_X11_isSolid : GoodIn wsX11_solid (va_wsS RX11 332 yX11_isSolid wsX11_isSolid) := goodIn_app (goodIn_of _ (by decide +kernel)) ggX11_solid_X11_isSolid
set_option maxRecDepth 20000 in
theorem ggX11_solid_X11_isIn : GoodIn wsX11_solid wsX11_isIn := goodIn_r _ [10] (by decide +kernel) (by decide +kernel)
set_option maxRecDepth 20000 in
theorem gX11_solid_X11_isIn : GoodIn wsX11_solid (va_wsS RX11 303 yX11_isIn wsX11_isIn) := goodIn_app (goodIn_of _ (by decide +kernel)) ggX11_solid_X11_isIn
set_option maxRecDepth 20000 in
theorem ggX11_solid_X11_volume : GoodIn wsX11_solid wsX11_volume := goodIn_r _ [14, 15, 16, 17, 18, 19, 6, 20, 21, 22, 23, 24, 25, 26, 27, 28, 29, 30, 31, 32, 33, 34, 35, 36, 37, 38, 39, 40, 41, 42, 137, 138, 139, 140, 141, 142, 143, 144, 145, 146, 147, 148, 149, 150, 151, 152, 153, 154, 155, 156, 157, 158, 159, 160, 161, 162, 163, 164, 165, 166, 167, 168, 169, 170, 171, 172, 173, 174, 175, 176, 177, 178, 179, 180, 181, 182, 183, 184, 185, 186, 187, 188] (by decide +kernel) (by decide +kernel)
set_option maxRecDepth 20000 in
theorem gX11_solid_X11_volume : GoodIn wsX11_solid (wsV RX11 337 RX11 yX11_volume wsX11_volume) := goodIn_app (goodIn_of _ (by decide +kernel)) ggX11_solid_X11_volume
set_option maxRecDepth 20000 in
theorem ggX11_solid_X11_tetsOf : GoodIn wsX11_solid wsX11_tetsOf := goodIn_r _ [46, 15, 16, 137, 138, 139, 140, 141, 142, 143, 144, 145, 146, 147, 148, 149, 150, 151, 152, 153, 154, 155, 156, 157, 158, 159, 160, 161, 162, 163, 164, 165, 166, 167, 168, 169, 170, 171, 172, 173, 174, 175, 176, 177, 178, 179, 180, 181, 182, 183, 184, 185, 186, 187, 188] (by decide +kernel) (by decide +kernel)
set_option maxRecDepth 20000 in
theorem gX11_solid_X11_tetsOf : GoodIn wsX11_solid (wsV RX11 340 RX11 yX11_tetsOf wsX11_tetsOf) := goodIn_app (goodIn_of _ (by decide +kernel)) ggX11_solid_X11_tetsOf
set_option maxRecDepth 20000 in
theorem ggX11_solid_X11_edgesOf : GoodIn wsX11_solid wsX11_edgesOf := goodIn_r _ [50, 15, 16, 51, 52, 53, 54, 6, 55, 56, 57, 58, 59, 60, 61, 62, 63, 64, 65, 66, 29, 30, 31, 32, 33, 34, 35, 36, 37, 38, 39, 67, 68, 69, 70, 71, 72, 73, 74, 75, 76, 77, 78, 17, 18, 19, 20, 21, 22, 23, 24, 25, 26, 27, 28, 40, 41, 42, 79, 80, 81, 82, 83, 84, 85, 86, 87, 88, 89, 90, 91, 92, 93, 94, 95, 96, 97, 98, 99, 100, 101, 102, 103, 104, 105, 106, 107, 137, 138, 139, 140, 141, 142, 143, 144, 145, 146, 147, 148, 149, 150, 151, 152, 153, 154, 155, 156, 157, 158, 159, 160, 161, 162, 163, 164, 165, 166, 167, 168, 169, 170, 171, 172, 173, 174, 175, 176, 177, 178, 179, 180, 181, 182, 183, 184, 185, 186, 187, 188] (by decide +kernel) (by decide +kernel)
set_option maxRecDepth 20000 in
theorem gX11_solid_X11_edgesOf : GoodIn wsX11_solid (wsV RX11 343 RX11 yX11_edgesOf wsX11_edgesOf) := goodIn_app (goodIn_of _ (by decide +kernel)) ggX11_solid_X11_edgesOf
set_option maxRecDepth 20000 in
theorem ggX11_solid_X11_laysSum : GoodIn wsX11_solid wsX11_laysSum := goodIn_r _ [111, 15, 16, 112, 113, 114, 6, 115, 116, 117, 52, 53, 54, 55, 56, 57, 58, 59, 51, 60, 61, 62, 63, 64, 65, 66, 29, 30, 31, 32, 33, 34, 35, 36, 37, 38, 39, 67, 68, 69, 70, 71, 72, 73, 74, 75, 76, 77, 78, 17, 18, 19, 20, 21, 22, 23, 24, 25, 26, 27, 28, 40, 41, 42, 79, 80, 81, 82, 83, 84, 85, 86, 87, 88, 89, 90, 91, 92, 93, 94, 95, 96, 97, 98, 99, 100, 101, 102, 103, 104, 105, 106, 107, 118, 119, 120, 121, 122, 123, 124, 125, 126, 127, 128, 129, 130, 131, 132, 133, 134, 135, 136, 3, 137, 138, 139, 140, 141, 142, 143, 144, 145, 146, 147, 148, 149, 150, 151, 152, 153, 154, 155, 156, 157, 158, 159, 160, 161, 162, 163, 164, 165, 166, 167, 168, 169, 170, 171, 172, 173, 174, 175, 176, 177, 178, 179, 180, 181, 182, 183, 184, 185, 186, 187, 188] (by decide +kernel) (by decide +kernel)
set_option maxRecDepth 20000 in
theorem gX11_solid_X11_laysSum : GoodIn wsX11_solid (wsV RX11 347 RX11 yX11_laysSum wsX11_laysSum) := goodIn_app (goodIn_of _ (by decide +kernel)) ggX11_solid_X11_laysSum
theorem dX11_solid_0 : decode cX11_solid 0 = .ok (.aload_n 0, 1) := by decide +kernel
theorem dX11_solid_1 : decode cX11_solid 1 = .ok (.iconst 0, 1) := by decide +kernel
theorem dX11_solid_2 : decode cX11_solid 2 = .ok (.putfield 106, 3) := by decide +kernel
theorem dX11_solid_5 : decode cX11_solid 5 = .ok (.iload_n 1, 1) := by decide +kernel
theorem dX11_solid_6 : decode cX11_solid 6 = .ok (.invokestatic 332, 3) := by decide +kernel
theorem dX11_solid_9 : decode cX11_solid 9 = .ok (.ifCond .eq 15, 3) := by decide +kernel
theorem dX11_solid_12 : decode cX11_solid 12 = .ok (.iload_n 2, 1) := by decide +kernel
theorem dX11_solid_13 : decode cX11_solid 13 = .ok (.i2l, 1) := by decide +kernel
theorem dX11_solid_14 : decode cX11_solid 14 = .ok (.lconst 0, 1) := by decide +kernel
theorem dX11_solid_15 : decode cX11_solid 15 = .ok (.ldc2_w 335, 3) := by decide +kernel
theorem dX11_solid_18 : decode cX11_solid 18 = .ok (.invokestatic 303, 3) := by decide +kernel
theorem dX11_solid_21 : decode cX11_solid 21 = .ok (.ifCond .ne 5, 3) := by decide +kernel
theorem dX11_solid_24 : decode cX11_solid 24 = .ok (.iconst (-1), 1) := by decide +kernel
theorem dX11_solid_25 : decode cX11_solid 25 = .ok (.ireturn, 1) := by decide +kernel
theorem dX11_solid_26 : decode cX11_solid 26 = .ok (.iload_n 2, 1) := by decide +kernel
theorem dX11_solid_27 : decode cX11_solid 27 = .ok (.ifCond .ne 9, 3) := by decide +kernel
theorem dX11_solid_30 : decode cX11_solid 30 = .ok (.aload_n 0, 1) := by decide +kernel
theorem dX11_solid_31 : decode cX11_solid 31 = .ok (.iload_n 1, 1) := by decide +kernel
theorem dX11_solid_32 : decode cX11_solid 32 = .ok (.invokevirtual 337, 3) := by decide +kernel
theorem dX11_solid_35 : decode cX11_solid 35 = .ok (.ireturn, 1) := by decide +kernel
theorem dX11_solid_36 : decode cX11_solid 36 = .ok (.iload_n 2, 1) := by decide +kernel
theorem dX11_solid_37 : decode cX11_solid 37 = .ok (.iconst 1, 1) := by decide +kernel
theorem dX11_solid_38 : decode cX11_solid 38 = .ok (.if_icmp .ne 9, 3) := by decide +kernel
theorem dX11_solid_41 : decode cX11_solid 41 = .ok (.aload_n 0, 1) := by decide +kernel
theorem dX11_solid_42 : decode cX11_solid 42 = .ok (.iload_n 1, 1) := by decide +kernel
theorem dX11_solid_43 : decode cX11_solid 43 = .ok (.invokevirtual 340, 3) := by decide +kernel
theorem dX11_solid_46 : decode cX11_solid 46 = .ok (.ireturn, 1) := by decide +kernel
theorem dX11_solid_47 : decode cX11_solid 47 = .ok (.iload_n 2, 1) := by decide +kernel
theorem dX11_solid_48 : decode cX11_solid 48 = .ok (.iconst 2, 1) := by decide +kernel
theorem dX11_solid_49 : decode cX11_solid 49 = .ok (.if_icmp .ne 10, 3) := by decide +kernel
theorem dX11_solid_52 : decode cX11_solid 52 = .ok (.aload_n 0, 1) := by decide +kernel
theorem dX11_solid_53 : decode cX11_solid 53 = .ok (.iload_n 1, 1) := by decide +kernel
theorem dX11_solid_54 : decode cX11_solid 54 = .ok (.iconst 0, 1) := by decide +kernel
theorem dX11_solid_55 : decode cX11_solid 55 = .ok (.invokevirtual 343, 3) := by decide +kernel
theorem dX11_solid_58 : decode cX11_solid 58 = .ok (.ireturn, 1) := by decide +kernel
theorem dX11_solid_59 : decode cX11_solid 59 = .ok (.aload_n 0, 1) := by decide +kernel
theorem dX11_solid_60 : decode cX11_solid 60 = .ok (.iconst 0, 1) := by decide +kernel
theorem dX11_solid_61 : decode cX11_solid 61 = .ok (.iload_n 1, 1) := by decide +kernel
theorem dX11_solid_62 : decode cX11_solid 62 = .ok (.invokevirtual 347, 3) := by decide +kernel
theorem dX11_solid_65 : decode cX11_solid 65 = .ok (.aload_n 0, 1) := by decide +kernel
theorem dX11_solid_66 : decode cX11_solid 66 = .ok (.getfield 41, 3) := by decide +kernel
theorem dX11_solid_69 : decode cX11_solid 69 = .ok (.iconst 0, 1) := by decide +kernel
theorem dX11_solid_70 : decode cX11_solid 70 = .ok (.iaload, 1) := by decide +kernel
theorem dX11_solid_71 : decode cX11_solid 71 = .ok (.ireturn, 1) := by decide +kernel
set_option maxRecDepth 20000 in
theorem ggX11_term_X11_isSolid : GoodIn wsX11_term wsX11_isSolid := goodIn_r _ [11] (by decide +kernel) (by decide +kernel)
set_option maxRecDepth 20000 in
theorem gX11_term_X11_isSolid : GoodIn wsX11_term (va_wsS RX11 332 yX11_isSolid wsX11_isSolid) := goodIn_app (goodIn_of _ (by decide +kernel)) ggX11_term_X11_isSolid
set_option maxRecDepth 20000 in
theorem ggX11_term_X11_isIn : GoodIn wsX11_term wsX11_isIn := goodIn_r _ [14] (by decide +kernel) (by decide +kernel)
set_option maxRecDepth 20000 in
theorem gX11_term_X11_isIn : GoodIn wsX11_term (va_wsS RX11 303 yX11_isIn wsX11_isIn) := goodIn_app (goodIn_of _ (by decide +kernel)) ggX11_term_X11_isIn
set_option maxRecDepth 20000 in
theorem ggX11_term_X11_laysSum : GoodIn wsX11_term wsX11_laysSum := goodIn_r _ [18, 19, 20, 21, 22, 23, 10, 24, 25, 26, 27, 28, 29, 30, 31, 32, 33, 34, 35, 36, 37, 38, 39, 40, 41, 42, 43, 44, 45, 46, 47, 48, 49, 50, 51, 52, 53, 54, 55, 56, 57, 58, 59, 60, 61, 62, 63, 64, 65, 66, 67, 68, 69, 70, 71, 72, 73, 74, 75, 76, 77, 78, 79, 80, 81, 82, 83, 84, 85, 86, 87, 88, 89, 90, 91, 92, 93, 94, 95, 96, 97, 98, 99, 100, 101, 2, 102, 103, 104, 105, 106, 107, 108, 109, 110, 111, 112, 113, 114, 115, 116, 5, 6, 7, 117, 118, 119, 120, 121, 122, 123, 124, 4, 125, 126, 127, 128, 129, 130, 131, 132, 133, 134, 135, 136, 137, 138, 139, 140, 141, 142, 143, 144, 145, 146, 147, 148, 149, 150, 151, 152, 153, 154, 155, 156, 157, 158, 159, 160, 161, 162, 163, 164, 165, 166, 167, 168, 169, 170, 171, 172, 173, 174, 175, 176] (by decide +kernel) (by decide +kernel)
set_option maxRecDepth 20000 in
theorem gX11_term_X11_laysSum : GoodIn wsX11_term (wsV RX11 347 RX11 yX11_laysSum wsX11_laysSum) := goodIn_app (goodIn_of _ (by decide +kernel)) ggX11_term_X11_laysSum
theorem dX11_term_0 : decode cX11_term 0 = .ok (.aload_n 0, 1) := by decide +kernel
theorem dX11_term_1 : decode cX11_term 1 = .ok (.iconst 0, 1) := by decide +kernel
theorem dX11_term_2 : decode cX11_term 2 = .ok (.putfield 106, 3) := by decide +kernel
theorem dX11_term_5 : decode cX11_term 5 = .ok (.iload_n 1, 1) := by decide +kernel
theorem dX11_term_6 : decode cX11_term 6 = .ok (.invokestatic 332, 3) := by decide +kernel
theorem dX11_term_9 : decode cX11_term 9 = .ok (.ifCond .eq 15, 3) := by decide +kernel
theorem dX11_term_12 : decode cX11_term 12 = .ok (.iload_n 3, 1) := by decide +kernel
theorem dX11_term_13 : decode cX11_term 13 = .ok (.i2l, 1) := by decide +kernel
theorem dX11_term_14 : decode cX11_term 14 = .ok (.lconst 0, 1) := by decide +kernel
theorem dX11_term_15 : decode cX11_term 15 = .ok (.ldc2_w 293, 3) := by decide +kernel
theorem dX11_term_18 : decode cX11_term 18 = .ok (.invokestatic 303, 3) := by decide +kernel
theorem dX11_term_21 : decode cX11_term 21 = .ok (.ifCond .ne 7, 3) := by decide +kernel
theorem dX11_term_24 : decode cX11_term 24 = .ok (.ldc_w 307, 3) := by decide +kernel
theorem dX11_term_27 : decode cX11_term 27 = .ok (.ireturn, 1) := by decide +kernel
theorem dX11_term_28 : decode cX11_term 28 = .ok (.aload_n 0, 1) := by decide +kernel
theorem dX11_term_29 : decode cX11_term 29 = .ok (.iconst 0, 1) := by decide +kernel
theorem dX11_term_30 : decode cX11_term 30 = .ok (.iload_n 1, 1) := by decide +kernel
theorem dX11_term_31 : decode cX11_term 31 = .ok (.invokevirtual 347, 3) := by decide +kernel
theorem dX11_term_34 : decode cX11_term 34 = .ok (.iload_n 2, 1) := by decide +kernel
theorem dX11_term_35 : decode cX11_term 35 = .ok (.ifCond .lt 13, 3) := by decide +kernel
theorem dX11_term_38 : decode cX11_term 38 = .ok (.iload_n 2, 1) := by decide +kernel
theorem dX11_term_39 : decode cX11_term 39 = .ok (.aload_n 0, 1) := by decide +kernel
theorem dX11_term_40 : decode cX11_term 40 = .ok (.getfield 41, 3) := by decide +kernel
theorem dX11_term_43 : decode cX11_term 43 = .ok (.iconst 0, 1) := by decide +kernel
theorem dX11_term_44 : decode cX11_term 44 = .ok (.iaload, 1) := by decide +kernel
theorem dX11_term_45 : decode cX11_term 45 = .ok (.if_icmp .lt 7, 3) := by decide +kernel
theorem dX11_term_48 : decode cX11_term 48 = .ok (.ldc_w 307, 3) := by decide +kernel
theorem dX11_term_51 : decode cX11_term 51 = .ok (.ireturn, 1) := by decide +kernel
theorem dX11_term_52 : decode cX11_term 52 = .ok (.iload_n 3, 1) := by decide +kernel
theorem dX11_term_53 : decode cX11_term 53 = .ok (.ifCond .ne 12, 3) := by decide +kernel
theorem dX11_term_56 : decode cX11_term 56 = .ok (.aload_n 0, 1) := by decide +kernel
theorem dX11_term_57 : decode cX11_term 57 = .ok (.getfield 29, 3) := by decide +kernel
theorem dX11_term_60 : decode cX11_term 60 = .ok (.iload_n 2, 1) := by decide +kernel
theorem dX11_term_61 : decode cX11_term 61 = .ok (.iaload, 1) := by decide +kernel
theorem dX11_term_62 : decode cX11_term 62 = .ok (.goto 23, 3) := by decide +kernel
theorem dX11_term_65 : decode cX11_term 65 = .ok (.iload_n 3, 1) := by decide +kernel
theorem dX11_term_66 : decode cX11_term 66 = .ok (.iconst 1, 1) := by decide +kernel
theorem dX11_term_67 : decode cX11_term 67 = .ok (.if_icmp .ne 12, 3) := by decide +kernel
theorem dX11_term_70 : decode cX11_term 70 = .ok (.aload_n 0, 1) := by decide +kernel
theorem dX11_term_71 : decode cX11_term 71 = .ok (.getfield 32, 3) := by decide +kernel
theorem dX11_term_74 : decode cX11_term 74 = .ok (.iload_n 2, 1) := by decide +kernel
theorem dX11_term_75 : decode cX11_term 75 = .ok (.iaload, 1) := by decide +kernel
theorem dX11_term_76 : decode cX11_term 76 = .ok (.goto 9, 3) := by decide +kernel
theorem dX11_term_79 : decode cX11_term 79 = .ok (.aload_n 0, 1) := by decide +kernel
theorem dX11_term_80 : decode cX11_term 80 = .ok (.getfield 35, 3) := by decide +kernel
theorem dX11_term_83 : decode cX11_term 83 = .ok (.iload_n 2, 1) := by decide +kernel
theorem dX11_term_84 : decode cX11_term 84 = .ok (.iaload, 1) := by decide +kernel
theorem dX11_term_85 : decode cX11_term 85 = .ok (.ireturn, 1) := by decide +kernel
set_option maxRecDepth 20000 in
theorem ggX11_much_X11_isSolid : GoodIn wsX11_much wsX11_isSolid := goodIn_r _ [6] (by decide +kernel) (by decide +kernel)
set_option maxRecDepth 20000 in
theorem gX11_much_X11_isSolid : GoodIn wsX11_much (va_wsS RX11 332 yX11_isSolid wsX11_isSolid) := goodIn_app (goodIn_of _ (by decide +kernel)) ggX11_much_X11_isSolid
set_option maxRecDepth 20000 in
theorem ggX11_much_X11_laysSum : GoodIn wsX11_much wsX11_laysSum := goodIn_r _ [10, 11, 12, 13, 14, 15, 5, 16, 17, 18, 19, 20, 21, 22, 23, 24, 25, 26, 27, 28, 29, 30, 31, 32, 33, 34, 35, 36, 37, 38, 39, 40, 41, 42, 43, 44, 45, 46, 47, 48, 49, 50, 51, 52, 53, 54, 55, 56, 57, 58, 59, 60, 61, 62, 63, 64, 65, 66, 67, 68, 69, 70, 71, 72, 73, 74, 75, 76, 77, 78, 79, 80, 81, 82, 83, 84, 85, 86, 87, 88, 89, 90, 91, 92, 93, 94, 95, 96, 97, 98, 99, 100, 101, 102, 103, 104, 105, 106, 107, 108, 109, 110, 111, 112, 113, 114, 115, 116, 117, 118, 119, 120, 121, 126, 127, 128, 129, 130, 131, 132, 133, 134, 135, 136, 137, 138, 139, 140, 141, 142, 143, 144, 145, 146, 147, 148, 149, 150, 151, 152, 153, 154, 155, 156, 157, 158, 159, 160, 161, 162, 163, 164, 165, 166, 167, 168, 169, 170, 171, 172, 173, 174, 175, 176, 177] (by decide +kernel) (by decide +kernel)
set_option maxRecDepth 20000 in
theorem gX11_much_X11_laysSum : GoodIn wsX11_much (wsV RX11 347 RX11 yX11_laysSum wsX11_laysSum) := goodIn_app (goodIn_of _ (by decide +kernel)) ggX11_much_X11_laysSum
set_option maxRecDepth 20000 in
theorem ggX11_much_X11_amountOf : GoodIn wsX11_much wsX11_amountOf := goodIn_r _ [125, 18, 121, 110, 111, 112, 126, 127, 128, 129, 130, 131, 132, 133, 134, 135, 136, 137, 138, 139, 140, 141, 142, 143, 144, 145, 146, 147, 148, 149, 150, 151, 152, 153, 154, 155, 156, 157, 158, 159, 160, 161, 162, 163, 164, 165, 166, 167, 168, 169, 170, 171, 172, 173, 174, 175, 176, 177] (by decide +kernel) (by decide +kernel)
set_option maxRecDepth 20000 in
theorem gX11_much_X11_amountOf : GoodIn wsX11_much (wsV RX11 350 RX11 yX11_amountOf wsX11_amountOf) := goodIn_app (goodIn_of _ (by decide +kernel)) ggX11_much_X11_amountOf
theorem dX11_much_0 : decode cX11_much 0 = .ok (.aload_n 0, 1) := by decide +kernel
theorem dX11_much_1 : decode cX11_much 1 = .ok (.iconst 0, 1) := by decide +kernel
theorem dX11_much_2 : decode cX11_much 2 = .ok (.putfield 106, 3) := by decide +kernel
theorem dX11_much_5 : decode cX11_much 5 = .ok (.iload_n 1, 1) := by decide +kernel
theorem dX11_much_6 : decode cX11_much 6 = .ok (.invokestatic 332, 3) := by decide +kernel
theorem dX11_much_9 : decode cX11_much 9 = .ok (.ifCond .ne 7, 3) := by decide +kernel
theorem dX11_much_12 : decode cX11_much 12 = .ok (.ldc_w 307, 3) := by decide +kernel
theorem dX11_much_15 : decode cX11_much 15 = .ok (.ireturn, 1) := by decide +kernel
theorem dX11_much_16 : decode cX11_much 16 = .ok (.aload_n 0, 1) := by decide +kernel
theorem dX11_much_17 : decode cX11_much 17 = .ok (.iconst 0, 1) := by decide +kernel
theorem dX11_much_18 : decode cX11_much 18 = .ok (.iload_n 1, 1) := by decide +kernel
theorem dX11_much_19 : decode cX11_much 19 = .ok (.invokevirtual 347, 3) := by decide +kernel
theorem dX11_much_22 : decode cX11_much 22 = .ok (.aload_n 0, 1) := by decide +kernel
theorem dX11_much_23 : decode cX11_much 23 = .ok (.iconst 0, 1) := by decide +kernel
theorem dX11_much_24 : decode cX11_much 24 = .ok (.iload_n 2, 1) := by decide +kernel
theorem dX11_much_25 : decode cX11_much 25 = .ok (.iload_n 3, 1) := by decide +kernel
theorem dX11_much_26 : decode cX11_much 26 = .ok (.invokevirtual 350, 3) := by decide +kernel
theorem dX11_much_29 : decode cX11_much 29 = .ok (.ireturn, 1) := by decide +kernel
set_option maxRecDepth 20000 in
theorem ggX11_areSums_X11_laysSum : GoodIn wsX11_areSums wsX11_laysSum := goodIn_r _ [13, 14, 15, 16, 17, 18, 12, 19, 2, 1, 20, 21, 22, 23, 24, 25, 26, 27, 28, 29, 30, 31, 32, 33, 34, 35, 36, 37, 38, 39, 40, 41, 42, 43, 44, 45, 46, 47, 48, 49, 50, 51, 52, 53, 54, 55, 56, 57, 58, 59, 60, 61, 62, 63, 64, 65, 66, 67, 68, 69, 70, 71, 72, 73, 74, 75, 76, 77, 78, 79, 80, 81, 82, 83, 84, 85, 86, 87, 88, 89, 90, 91, 92, 93, 94, 95, 96, 97, 98, 99, 100, 101, 102, 103, 104, 105, 106, 107, 108, 109, 110, 3, 4, 7, 111, 112, 113, 114, 115, 116, 117, 118, 119, 120, 121, 122, 123, 124, 125, 126, 127, 128, 129, 130, 131, 132, 133, 134, 135, 136, 137, 138, 139, 140, 141, 142, 143, 144, 145, 146, 147, 148, 149, 150, 151, 152, 153, 154, 155, 156, 157, 158, 159, 160, 161, 162, 163, 164, 165, 166, 167, 168, 169, 170, 171] (by decide +kernel) (by decide +kernel)
set_option maxRecDepth 20000 in
theorem gX11_areSums_X11_laysSum : GoodIn wsX11_areSums (wsV RX11 347 RX11 yX11_laysSum wsX11_laysSum) := goodIn_app (goodIn_of _ (by decide +kernel)) ggX11_areSums_X11_laysSum
theorem dX11_areSums_0 : decode cX11_areSums 0 = .ok (.aload_n 0, 1) := by decide +kernel
theorem dX11_areSums_1 : decode cX11_areSums 1 = .ok (.iconst 0, 1) := by decide +kernel
theorem dX11_areSums_2 : decode cX11_areSums 2 = .ok (.iload_n 1, 1) := by decide +kernel
theorem dX11_areSums_3 : decode cX11_areSums 3 = .ok (.invokevirtual 347, 3) := by decide +kernel
theorem dX11_areSums_6 : decode cX11_areSums 6 = .ok (.aload_n 0, 1) := by decide +kernel
theorem dX11_areSums_7 : decode cX11_areSums 7 = .ok (.iconst 1, 1) := by decide +kernel
theorem dX11_areSums_8 : decode cX11_areSums 8 = .ok (.iload_n 2, 1) := by decide +kernel
theorem dX11_areSums_9 : decode cX11_areSums 9 = .ok (.invokevirtual 347, 3) := by decide +kernel
theorem dX11_areSums_12 : decode cX11_areSums 12 = .ok (.aload_n 0, 1) := by decide +kernel
theorem dX11_areSums_13 : decode cX11_areSums 13 = .ok (.getfield 38, 3) := by decide +kernel
theorem dX11_areSums_16 : decode cX11_areSums 16 = .ok (.iconst 0, 1) := by decide +kernel
theorem dX11_areSums_17 : decode cX11_areSums 17 = .ok (.iaload, 1) := by decide +kernel
theorem dX11_areSums_18 : decode cX11_areSums 18 = .ok (.istore_n 3, 1) := by decide +kernel
theorem dX11_areSums_19 : decode cX11_areSums 19 = .ok (.aload_n 0, 1) := by decide +kernel
theorem dX11_areSums_20 : decode cX11_areSums 20 = .ok (.getfield 38, 3) := by decide +kernel
theorem dX11_areSums_23 : decode cX11_areSums 23 = .ok (.iconst 1, 1) := by decide +kernel
theorem dX11_areSums_24 : decode cX11_areSums 24 = .ok (.iaload, 1) := by decide +kernel
theorem dX11_areSums_25 : decode cX11_areSums 25 = .ok (.istore 4, 2) := by decide +kernel
theorem dX11_areSums_27 : decode cX11_areSums 27 = .ok (.iload_n 3, 1) := by decide +kernel
theorem dX11_areSums_28 : decode cX11_areSums 28 = .ok (.aload_n 0, 1) := by decide +kernel
theorem dX11_areSums_29 : decode cX11_areSums 29 = .ok (.getfield 38, 3) := by decide +kernel
theorem dX11_areSums_32 : decode cX11_areSums 32 = .ok (.iconst 1, 1) := by decide +kernel
theorem dX11_areSums_33 : decode cX11_areSums 33 = .ok (.iaload, 1) := by decide +kernel
theorem dX11_areSums_34 : decode cX11_areSums 34 = .ok (.if_icmp .lt 12, 3) := by decide +kernel
theorem dX11_areSums_37 : decode cX11_areSums 37 = .ok (.iload 4, 2) := by decide +kernel
theorem dX11_areSums_39 : decode cX11_areSums 39 = .ok (.aload_n 0, 1) := by decide +kernel
theorem dX11_areSums_40 : decode cX11_areSums 40 = .ok (.getfield 312, 3) := by decide +kernel
theorem dX11_areSums_43 : decode cX11_areSums 43 = .ok (.if_icmp .ge 265, 3) := by decide +kernel
theorem dX11_areSums_46 : decode cX11_areSums 46 = .ok (.iload_n 3, 1) := by decide +kernel
theorem dX11_areSums_47 : decode cX11_areSums 47 = .ok (.aload_n 0, 1) := by decide +kernel
theorem dX11_areSums_48 : decode cX11_areSums 48 = .ok (.getfield 38, 3) := by decide +kernel
theorem dX11_areSums_51 : decode cX11_areSums 51 = .ok (.iconst 1, 1) := by decide +kernel
theorem dX11_areSums_52 : decode cX11_areSums 52 = .ok (.iaload, 1) := by decide +kernel
theorem dX11_areSums_53 : decode cX11_areSums 53 = .ok (.if_icmp .ge 64, 3) := by decide +kernel
theorem dX11_areSums_56 : decode cX11_areSums 56 = .ok (.iload 4, 2) := by decide +kernel
theorem dX11_areSums_58 : decode cX11_areSums 58 = .ok (.aload_n 0, 1) := by decide +kernel
theorem dX11_areSums_59 : decode cX11_areSums 59 = .ok (.getfield 312, 3) := by decide +kernel
theorem dX11_areSums_62 : decode cX11_areSums 62 = .ok (.if_icmp .eq 51, 3) := by decide +kernel
theorem dX11_areSums_65 : decode cX11_areSums 65 = .ok (.aload_n 0, 1) := by decide +kernel
theorem dX11_areSums_66 : decode cX11_areSums 66 = .ok (.getfield 29, 3) := by decide +kernel
theorem dX11_areSums_69 : decode cX11_areSums 69 = .ok (.iload_n 3, 1) := by decide +kernel
theorem dX11_areSums_70 : decode cX11_areSums 70 = .ok (.iaload, 1) := by decide +kernel
theorem dX11_areSums_71 : decode cX11_areSums 71 = .ok (.aload_n 0, 1) := by decide +kernel
theorem dX11_areSums_72 : decode cX11_areSums 72 = .ok (.getfield 29, 3) := by decide +kernel
theorem dX11_areSums_75 : decode cX11_areSums 75 = .ok (.iload 4, 2) := by decide +kernel
theorem dX11_areSums_77 : decode cX11_areSums 77 = .ok (.iaload, 1) := by decide +kernel
theorem dX11_areSums_78 : decode cX11_areSums 78 = .ok (.if_icmp .lt 35, 3) := by decide +kernel
theorem dX11_areSums_81 : decode cX11_areSums 81 = .ok (.aload_n 0, 1) := by decide +kernel
theorem dX11_areSums_82 : decode cX11_areSums 82 = .ok (.getfield 29, 3) := by decide +kernel
theorem dX11_areSums_85 : decode cX11_areSums 85 = .ok (.iload_n 3, 1) := by decide +kernel
theorem dX11_areSums_86 : decode cX11_areSums 86 = .ok (.iaload, 1) := by decide +kernel
theorem dX11_areSums_87 : decode cX11_areSums 87 = .ok (.aload_n 0, 1) := by decide +kernel
theorem dX11_areSums_88 : decode cX11_areSums 88 = .ok (.getfield 29, 3) := by decide +kernel
theorem dX11_areSums_91 : decode cX11_areSums 91 = .ok (.iload 4, 2) := by decide +kernel
theorem dX11_areSums_93 : decode cX11_areSums 93 = .ok (.iaload, 1) := by decide +kernel
theorem dX11_areSums_94 : decode cX11_areSums 94 = .ok (.if_icmp .ne 23, 3) := by decide +kernel
theorem dX11_areSums_97 : decode cX11_areSums 97 = .ok (.aload_n 0, 1) := by decide +kernel
theorem dX11_areSums_98 : decode cX11_areSums 98 = .ok (.getfield 32, 3) := by decide +kernel
theorem dX11_areSums_101 : decode cX11_areSums 101 = .ok (.iload_n 3, 1) := by decide +kernel
theorem dX11_areSums_102 : decode cX11_areSums 102 = .ok (.iaload, 1) := by decide +kernel
theorem dX11_areSums_103 : decode cX11_areSums 103 = .ok (.aload_n 0, 1) := by decide +kernel
theorem dX11_areSums_104 : decode cX11_areSums 104 = .ok (.getfield 32, 3) := by decide +kernel
theorem dX11_areSums_107 : decode cX11_areSums 107 = .ok (.iload 4, 2) := by decide +kernel
theorem dX11_areSums_109 : decode cX11_areSums 109 = .ok (.iaload, 1) := by decide +kernel
theorem dX11_areSums_110 : decode cX11_areSums 110 = .ok (.if_icmp .gt 7, 3) := by decide +kernel
theorem dX11_areSums_113 : decode cX11_areSums 113 = .ok (.iconst 1, 1) := by decide +kernel
theorem dX11_areSums_114 : decode cX11_areSums 114 = .ok (.goto 4, 3) := by decide +kernel
theorem dX11_areSums_117 : decode cX11_areSums 117 = .ok (.iconst 0, 1) := by decide +kernel
theorem dX11_areSums_118 : decode cX11_areSums 118 = .ok (.istore 5, 2) := by decide +kernel
theorem dX11_areSums_120 : decode cX11_areSums 120 = .ok (.iload 4, 2) := by decide +kernel
theorem dX11_areSums_122 : decode cX11_areSums 122 = .ok (.aload_n 0, 1) := by decide +kernel
theorem dX11_areSums_123 : decode cX11_areSums 123 = .ok (.getfield 312, 3) := by decide +kernel
theorem dX11_areSums_126 : decode cX11_areSums 126 = .ok (.if_icmp .ge 65, 3) := by decide +kernel
theorem dX11_areSums_129 : decode cX11_areSums 129 = .ok (.iload_n 3, 1) := by decide +kernel
theorem dX11_areSums_130 : decode cX11_areSums 130 = .ok (.aload_n 0, 1) := by decide +kernel
theorem dX11_areSums_131 : decode cX11_areSums 131 = .ok (.getfield 38, 3) := by decide +kernel
theorem dX11_areSums_134 : decode cX11_areSums 134 = .ok (.iconst 1, 1) := by decide +kernel
theorem dX11_areSums_135 : decode cX11_areSums 135 = .ok (.iaload, 1) := by decide +kernel
theorem dX11_areSums_136 : decode cX11_areSums 136 = .ok (.if_icmp .eq 51, 3) := by decide +kernel
theorem dX11_areSums_139 : decode cX11_areSums 139 = .ok (.aload_n 0, 1) := by decide +kernel
theorem dX11_areSums_140 : decode cX11_areSums 140 = .ok (.getfield 29, 3) := by decide +kernel
theorem dX11_areSums_143 : decode cX11_areSums 143 = .ok (.iload 4, 2) := by decide +kernel
theorem dX11_areSums_145 : decode cX11_areSums 145 = .ok (.iaload, 1) := by decide +kernel
theorem dX11_areSums_146 : decode cX11_areSums 146 = .ok (.aload_n 0, 1) := by decide +kernel
theorem dX11_areSums_147 : decode cX11_areSums 147 = .ok (.getfield 29, 3) := by decide +kernel
theorem dX11_areSums_150 : decode cX11_areSums 150 = .ok (.iload_n 3, 1) := by decide +kernel
theorem dX11_areSums_151 : decode cX11_areSums 151 = .ok (.iaload, 1) := by decide +kernel
theorem dX11_areSums_152 : decode cX11_areSums 152 = .ok (.if_icmp .lt 35, 3) := by decide +kernel
theorem dX11_areSums_155 : decode cX11_areSums 155 = .ok (.aload_n 0, 1) := by decide +kernel
theorem dX11_areSums_156 : decode cX11_areSums 156 = .ok (.getfield 29, 3) := by decide +kernel
theorem dX11_areSums_159 : decode cX11_areSums 159 = .ok (.iload 4, 2) := by decide +kernel
theorem dX11_areSums_161 : decode cX11_areSums 161 = .ok (.iaload, 1) := by decide +kernel
theorem dX11_areSums_162 : decode cX11_areSums 162 = .ok (.aload_n 0, 1) := by decide +kernel
theorem dX11_areSums_163 : decode cX11_areSums 163 = .ok (.getfield 29, 3) := by decide +kernel
theorem dX11_areSums_166 : decode cX11_areSums 166 = .ok (.iload_n 3, 1) := by decide +kernel
theorem dX11_areSums_167 : decode cX11_areSums 167 = .ok (.iaload, 1) := by decide +kernel
theorem dX11_areSums_168 : decode cX11_areSums 168 = .ok (.if_icmp .ne 23, 3) := by decide +kernel
theorem dX11_areSums_171 : decode cX11_areSums 171 = .ok (.aload_n 0, 1) := by decide +kernel
theorem dX11_areSums_172 : decode cX11_areSums 172 = .ok (.getfield 32, 3) := by decide +kernel
theorem dX11_areSums_175 : decode cX11_areSums 175 = .ok (.iload 4, 2) := by decide +kernel
theorem dX11_areSums_177 : decode cX11_areSums 177 = .ok (.iaload, 1) := by decide +kernel
theorem dX11_areSums_178 : decode cX11_areSums 178 = .ok (.aload_n 0, 1) := by decide +kernel
theorem dX11_areSums_179 : decode cX11_areSums 179 = .ok (.getfield 32, 3) := by decide +kernel
theorem dX11_areSums_182 : decode cX11_areSums 182 = .ok (.iload_n 3, 1) := by decide +kernel
theorem dX11_areSums_183 : decode cX11_areSums 183 = .ok (.iaload, 1) := by decide +kernel
theorem dX11_areSums_184 : decode cX11_areSums 184 = .ok (.if_icmp .gt 7, 3) := by decide +kernel
theorem dX11_areSums_187 : decode cX11_areSums 187 = .ok (.iconst 1, 1) := by decide +kernel
theorem dX11_areSums_188 : decode cX11_areSums 188 = .ok (.goto 4, 3) := by decide +kernel
theorem dX11_areSums_191 : decode cX11_areSums 191 = .ok (.iconst 0, 1) := by decide +kernel
theorem dX11_areSums_192 : decode cX11_areSums 192 = .ok (.istore 6, 2) := by decide +kernel
theorem dX11_areSums_194 : decode cX11_areSums 194 = .ok (.aload_n 0, 1) := by decide +kernel
theorem dX11_areSums_195 : decode cX11_areSums 195 = .ok (.iload 5, 2) := by decide +kernel
theorem dX11_areSums_197 : decode cX11_areSums 197 = .ok (.ifCond .eq 12, 3) := by decide +kernel
theorem dX11_areSums_200 : decode cX11_areSums 200 = .ok (.aload_n 0, 1) := by decide +kernel
theorem dX11_areSums_201 : decode cX11_areSums 201 = .ok (.getfield 29, 3) := by decide +kernel
theorem dX11_areSums_204 : decode cX11_areSums 204 = .ok (.iload_n 3, 1) := by decide +kernel
theorem dX11_areSums_205 : decode cX11_areSums 205 = .ok (.iaload, 1) := by decide +kernel
theorem dX11_areSums_206 : decode cX11_areSums 206 = .ok (.goto 10, 3) := by decide +kernel
theorem dX11_areSums_209 : decode cX11_areSums 209 = .ok (.aload_n 0, 1) := by decide +kernel
theorem dX11_areSums_210 : decode cX11_areSums 210 = .ok (.getfield 29, 3) := by decide +kernel
theorem dX11_areSums_213 : decode cX11_areSums 213 = .ok (.iload 4, 2) := by decide +kernel
theorem dX11_areSums_215 : decode cX11_areSums 215 = .ok (.iaload, 1) := by decide +kernel
theorem dX11_areSums_216 : decode cX11_areSums 216 = .ok (.putfield 353, 3) := by decide +kernel
theorem dX11_areSums_219 : decode cX11_areSums 219 = .ok (.aload_n 0, 1) := by decide +kernel
theorem dX11_areSums_220 : decode cX11_areSums 220 = .ok (.iload 5, 2) := by decide +kernel
theorem dX11_areSums_222 : decode cX11_areSums 222 = .ok (.ifCond .eq 12, 3) := by decide +kernel
theorem dX11_areSums_225 : decode cX11_areSums 225 = .ok (.aload_n 0, 1) := by decide +kernel
theorem dX11_areSums_226 : decode cX11_areSums 226 = .ok (.getfield 32, 3) := by decide +kernel
theorem dX11_areSums_229 : decode cX11_areSums 229 = .ok (.iload_n 3, 1) := by decide +kernel
theorem dX11_areSums_230 : decode cX11_areSums 230 = .ok (.iaload, 1) := by decide +kernel
theorem dX11_areSums_231 : decode cX11_areSums 231 = .ok (.goto 10, 3) := by decide +kernel
theorem dX11_areSums_234 : decode cX11_areSums 234 = .ok (.aload_n 0, 1) := by decide +kernel
theorem dX11_areSums_235 : decode cX11_areSums 235 = .ok (.getfield 32, 3) := by decide +kernel
theorem dX11_areSums_238 : decode cX11_areSums 238 = .ok (.iload 4, 2) := by decide +kernel
theorem dX11_areSums_240 : decode cX11_areSums 240 = .ok (.iaload, 1) := by decide +kernel
theorem dX11_areSums_241 : decode cX11_areSums 241 = .ok (.putfield 356, 3) := by decide +kernel
theorem dX11_areSums_244 : decode cX11_areSums 244 = .ok (.aload_n 0, 1) := by decide +kernel
theorem dX11_areSums_245 : decode cX11_areSums 245 = .ok (.iload 5, 2) := by decide +kernel
theorem dX11_areSums_247 : decode cX11_areSums 247 = .ok (.ifCond .eq 12, 3) := by decide +kernel
theorem dX11_areSums_250 : decode cX11_areSums 250 = .ok (.aload_n 0, 1) := by decide +kernel
theorem dX11_areSums_251 : decode cX11_areSums 251 = .ok (.getfield 35, 3) := by decide +kernel
theorem dX11_areSums_254 : decode cX11_areSums 254 = .ok (.iload_n 3, 1) := by decide +kernel
theorem dX11_areSums_255 : decode cX11_areSums 255 = .ok (.iaload, 1) := by decide +kernel
theorem dX11_areSums_256 : decode cX11_areSums 256 = .ok (.goto 4, 3) := by decide +kernel
theorem dX11_areSums_259 : decode cX11_areSums 259 = .ok (.iconst 0, 1) := by decide +kernel
theorem dX11_areSums_260 : decode cX11_areSums 260 = .ok (.iload 6, 2) := by decide +kernel
theorem dX11_areSums_262 : decode cX11_areSums 262 = .ok (.ifCond .eq 13, 3) := by decide +kernel
theorem dX11_areSums_265 : decode cX11_areSums 265 = .ok (.aload_n 0, 1) := by decide +kernel
theorem dX11_areSums_266 : decode cX11_areSums 266 = .ok (.getfield 35, 3) := by decide +kernel
theorem dX11_areSums_269 : decode cX11_areSums 269 = .ok (.iload 4, 2) := by decide +kernel
theorem dX11_areSums_271 : decode cX11_areSums 271 = .ok (.iaload, 1) := by decide +kernel
theorem dX11_areSums_272 : decode cX11_areSums 272 = .ok (.goto 4, 3) := by decide +kernel
theorem dX11_areSums_275 : decode cX11_areSums 275 = .ok (.iconst 0, 1) := by decide +kernel
theorem dX11_areSums_276 : decode cX11_areSums 276 = .ok (.isub, 1) := by decide +kernel
theorem dX11_areSums_277 : decode cX11_areSums 277 = .ok (.putfield 359, 3) := by decide +kernel
theorem dX11_areSums_280 : decode cX11_areSums 280 = .ok (.aload_n 0, 1) := by decide +kernel
theorem dX11_areSums_281 : decode cX11_areSums 281 = .ok (.getfield 359, 3) := by decide +kernel
theorem dX11_areSums_284 : decode cX11_areSums 284 = .ok (.ifCond .eq 5, 3) := by decide +kernel
theorem dX11_areSums_287 : decode cX11_areSums 287 = .ok (.iconst 0, 1) := by decide +kernel
theorem dX11_areSums_288 : decode cX11_areSums 288 = .ok (.ireturn, 1) := by decide +kernel
theorem dX11_areSums_289 : decode cX11_areSums 289 = .ok (.iload 5, 2) := by decide +kernel
theorem dX11_areSums_291 : decode cX11_areSums 291 = .ok (.ifCond .eq 6, 3) := by decide +kernel
theorem dX11_areSums_294 : decode cX11_areSums 294 = .ok (.iinc 3 1, 3) := by decide +kernel
theorem dX11_areSums_297 : decode cX11_areSums 297 = .ok (.iload 6, 2) := by decide +kernel
theorem dX11_areSums_299 : decode cX11_areSums 299 = .ok (.ifCond .eq 6, 3) := by decide +kernel
theorem dX11_areSums_302 : decode cX11_areSums 302 = .ok (.iinc 4 1, 3) := by decide +kernel
theorem dX11_areSums_305 : decode cX11_areSums 305 = .ok (.goto (-278), 3) := by decide +kernel
theorem dX11_areSums_308 : decode cX11_areSums 308 = .ok (.iconst 1, 1) := by decide +kernel
theorem dX11_areSums_309 : decode cX11_areSums 309 = .ok (.ireturn, 1) := by decide +kernel
set_option maxRecDepth 20000 in
theorem ggX11_alike_X11_isSolid : GoodIn wsX11_alike wsX11_isSolid := goodIn_r _ [5] (by decide +kernel) (by decide +kernel)
set_option maxRecDepth 20000 in
theorem gX11_alike_X11_isSolid : GoodIn wsX11_alike (va_wsS RX11 332 yX11_isSolid wsX11_isSolid) := goodIn_app (goodIn_of _ (by decide +kernel)) ggX11_alike_X11_isSolid
set_option maxRecDepth 20000 in
theorem ggX11_alike_X11_volume : GoodIn wsX11_alike wsX11_volume := goodIn_r _ [9, 10, 11, 12, 13, 14, 4, 15, 16, 17, 18, 19, 20, 21, 22, 23, 24, 25, 26, 27, 28, 29, 30, 31, 32, 33, 34, 35, 36, 37, 132, 133, 134, 135, 136, 137, 138, 139, 140, 141, 142, 143, 144, 145, 146, 147, 148, 149, 150, 151, 152, 153, 154, 155, 156, 157, 158, 159, 160, 161, 162, 163, 164, 165, 166, 167, 168, 169, 170, 171, 172, 173, 174, 175, 176, 177, 178, 179, 180, 181, 182, 183] (by decide +kernel) (by decide +kernel)
set_option maxRecDepth 20000 in
theorem gX11_alike_X11_volume : GoodIn wsX11_alike (wsV RX11 337 RX11 yX11_volume wsX11_volume) := goodIn_app (goodIn_of _ (by decide +kernel)) ggX11_alike_X11_volume
set_option maxRecDepth 20000 in
theorem ggX11_alike_X11_areSums : GoodIn wsX11_alike wsX11_areSums := goodIn_r _ [41, 42, 43, 44, 45, 46, 47, 48, 49, 50, 51, 52, 4, 53, 10, 11, 54, 55, 56, 57, 58, 59, 60, 61, 62, 63, 64, 65, 66, 67, 68, 69, 70, 71, 72, 73, 24, 25, 26, 27, 28, 29, 30, 31, 32, 33, 34, 74, 75, 76, 77, 78, 79, 80, 81, 82, 83, 84, 85, 12, 13, 14, 15, 16, 17, 18, 19, 20, 21, 22, 23, 35, 36, 37, 86, 87, 88, 89, 90, 91, 92, 93, 94, 95, 96, 97, 98, 99, 100, 101, 102, 103, 104, 105, 106, 107, 108, 109, 110, 111, 112, 113, 114, 115, 116, 117, 118, 119, 120, 121, 122, 123, 124, 125, 126, 127, 128, 129, 130, 131, 132, 133, 134, 135, 136, 137, 138, 139, 140, 141, 142, 143, 144, 145, 146, 147, 148, 149, 150, 151, 152, 153, 154, 155, 156, 157, 158, 159, 160, 161, 162, 163, 164, 165, 166, 167, 168, 169, 170, 171, 172, 173, 174, 175, 176, 177, 178, 179, 180, 181, 182, 183] (by decide +kernel) (by decide +kernel)
set_option maxRecDepth 20000 in
theorem gX11_alike_X11_areSums : GoodIn wsX11_alike (wsV RX11 362 RX11 yX11_areSums wsX11_areSums) := goodIn_app (goodIn_of _ (by decide +kernel)) ggX11_alike_X11_areSums
theorem dX11_alike_0 : decode cX11_alike 0 = .ok (.aload_n 0, 1) := by decide +kernel
theorem dX11_alike_1 : decode cX11_alike 1 = .ok (.iconst 0, 1) := by decide +kernel
theorem dX11_alike_2 : decode cX11_alike 2 = .ok (.putfield 106, 3) := by decide +kernel
theorem dX11_alike_5 : decode cX11_alike 5 = .ok (.iload_n 1, 1) := by decide +kernel
theorem dX11_alike_6 : decode cX11_alike 6 = .ok (.invokestatic 332, 3) := by decide +kernel
theorem dX11_alike_9 : decode cX11_alike 9 = .ok (.ifCond .eq 10, 3) := by decide +kernel
theorem dX11_alike_12 : decode cX11_alike 12 = .ok (.iload_n 2, 1) := by decide +kernel
theorem dX11_alike_13 : decode cX11_alike 13 = .ok (.invokestatic 332, 3) := by decide +kernel
theorem dX11_alike_16 : decode cX11_alike 16 = .ok (.ifCond .ne 5, 3) := by decide +kernel
theorem dX11_alike_19 : decode cX11_alike 19 = .ok (.iconst (-1), 1) := by decide +kernel
theorem dX11_alike_20 : decode cX11_alike 20 = .ok (.ireturn, 1) := by decide +kernel
theorem dX11_alike_21 : decode cX11_alike 21 = .ok (.aload_n 0, 1) := by decide +kernel
theorem dX11_alike_22 : decode cX11_alike 22 = .ok (.iload_n 1, 1) := by decide +kernel
theorem dX11_alike_23 : decode cX11_alike 23 = .ok (.invokevirtual 337, 3) := by decide +kernel
theorem dX11_alike_26 : decode cX11_alike 26 = .ok (.aload_n 0, 1) := by decide +kernel
theorem dX11_alike_27 : decode cX11_alike 27 = .ok (.iload_n 2, 1) := by decide +kernel
theorem dX11_alike_28 : decode cX11_alike 28 = .ok (.invokevirtual 337, 3) := by decide +kernel
theorem dX11_alike_31 : decode cX11_alike 31 = .ok (.if_icmp .eq 7, 3) := by decide +kernel
theorem dX11_alike_34 : decode cX11_alike 34 = .ok (.iconst 1, 1) := by decide +kernel
theorem dX11_alike_35 : decode cX11_alike 35 = .ok (.goto 17, 3) := by decide +kernel
theorem dX11_alike_38 : decode cX11_alike 38 = .ok (.aload_n 0, 1) := by decide +kernel
theorem dX11_alike_39 : decode cX11_alike 39 = .ok (.iload_n 1, 1) := by decide +kernel
theorem dX11_alike_40 : decode cX11_alike 40 = .ok (.iload_n 2, 1) := by decide +kernel
theorem dX11_alike_41 : decode cX11_alike 41 = .ok (.invokevirtual 362, 3) := by decide +kernel
theorem dX11_alike_44 : decode cX11_alike 44 = .ok (.ifCond .eq 7, 3) := by decide +kernel
theorem dX11_alike_47 : decode cX11_alike 47 = .ok (.iconst 0, 1) := by decide +kernel
theorem dX11_alike_48 : decode cX11_alike 48 = .ok (.goto 4, 3) := by decide +kernel
theorem dX11_alike_51 : decode cX11_alike 51 = .ok (.iconst 2, 1) := by decide +kernel
theorem dX11_alike_52 : decode cX11_alike 52 = .ok (.ireturn, 1) := by decide +kernel
set_option maxRecDepth 20000 in
theorem ggX11_unlike_X11_isSolid : GoodIn wsX11_unlike wsX11_isSolid := goodIn_r _ [10] (by decide +kernel) (by decide +kernel)
set_option maxRecDepth 20000 in
theorem gX11_unlike_X11_isSolid : GoodIn wsX11_unlike (va_wsS RX11 332 yX11_isSolid wsX11_isSolid) := goodIn_app (goodIn_of _ (by decide +kernel)) ggX11_unlike_X11_isSolid
set_option maxRecDepth 20000 in
theorem ggX11_unlike_X11_isIn : GoodIn wsX11_unlike wsX11_isIn := goodIn_r _ [13] (by decide +kernel) (by decide +kernel)
set_option maxRecDepth 20000 in
theorem gX11_unlike_X11_isIn : GoodIn wsX11_unlike (va_wsS RX11 303 yX11_isIn wsX11_isIn) := goodIn_app (goodIn_of _ (by decide +kernel)) ggX11_unlike_X11_isIn
set_option maxRecDepth 20000 in
theorem ggX11_unlike_X11_areSums : GoodIn wsX11_unlike wsX11_areSums := goodIn_r _ [17, 18, 19, 20, 21, 4, 5, 22, 6, 23, 24, 25, 9, 26, 27, 28, 29, 30, 31, 32, 33, 34, 35, 36, 37, 38, 39, 40, 41, 42, 43, 44, 45, 46, 47, 48, 49, 50, 51, 52, 53, 54, 55, 56, 57, 58, 59, 60, 61, 62, 63, 64, 65, 66, 67, 68, 69, 70, 71, 72, 73, 74, 75, 76, 77, 78, 79, 80, 81, 82, 83, 84, 85, 86, 87, 88, 89, 90, 91, 92, 93, 94, 95, 96, 97, 98, 99, 100, 101, 102, 103, 104, 105, 106, 107, 2, 108, 109, 110, 111, 112, 113, 114, 115, 116, 117, 118, 119, 120, 121, 122, 123, 124, 125, 126, 127, 128, 129, 130, 131, 132, 133, 134, 135, 136, 137, 138, 139, 140, 141, 142, 143, 144, 145, 146, 147, 148, 149, 150, 151, 152, 153, 154, 155, 156, 157, 158, 159, 160, 161, 162, 163, 164, 165, 166, 167, 168, 169, 170, 171, 172, 173, 174, 175, 176, 177, 178, 179, 180, 181, 182, 183] (by decide +kernel) (by decide +kernel)
set_option maxRecDepth 20000 in
theorem gX11_unlike_X11_areSums : GoodIn wsX11_unlike (wsV RX11 362 RX11 yX11_areSums wsX11_areSums) := goodIn_app (goodIn_of _ (by decide +kernel)) ggX11_unlike_X11_areSums
theorem dX11_unlike_0 : decode cX11_unlike 0 = .ok (.aload_n 0, 1) := by decide +kernel
theorem dX11_unlike_1 : decode cX11_unlike 1 = .ok (.iconst 0, 1) := by decide +kernel
theorem dX11_unlike_2 : decode cX11_unlike 2 = .ok (.putfield 106, 3) := by decide +kernel
theorem dX11_unlike_5 : decode cX11_unlike 5 = .ok (.iload_n 1, 1) := by decide +kernel
theorem dX11_unlike_6 : decode cX11_unlike 6 = .ok (.invokestatic 332, 3) := by decide +kernel
theorem dX11_unlike_9 : decode cX11_unlike 9 = .ok (.ifCond .eq 31, 3) := by decide +kernel
theorem dX11_unlike_12 : decode cX11_unlike 12 = .ok (.iload_n 2, 1) := by decide +kernel
theorem dX11_unlike_13 : decode cX11_unlike 13 = .ok (.invokestatic 332, 3) := by decide +kernel
theorem dX11_unlike_16 : decode cX11_unlike 16 = .ok (.ifCond .eq 24, 3) := by decide +kernel
theorem dX11_unlike_19 : decode cX11_unlike 19 = .ok (.iload_n 3, 1) := by decide +kernel
theorem dX11_unlike_20 : decode cX11_unlike 20 = .ok (.i2l, 1) := by decide +kernel
theorem dX11_unlike_21 : decode cX11_unlike 21 = .ok (.lconst 0, 1) := by decide +kernel
theorem dX11_unlike_22 : decode cX11_unlike 22 = .ok (.ldc2_w 293, 3) := by decide +kernel
theorem dX11_unlike_25 : decode cX11_unlike 25 = .ok (.invokestatic 303, 3) := by decide +kernel
theorem dX11_unlike_28 : decode cX11_unlike 28 = .ok (.ifCond .eq 12, 3) := by decide +kernel
theorem dX11_unlike_31 : decode cX11_unlike 31 = .ok (.aload_n 0, 1) := by decide +kernel
theorem dX11_unlike_32 : decode cX11_unlike 32 = .ok (.iload_n 1, 1) := by decide +kernel
theorem dX11_unlike_33 : decode cX11_unlike 33 = .ok (.iload_n 2, 1) := by decide +kernel
theorem dX11_unlike_34 : decode cX11_unlike 34 = .ok (.invokevirtual 362, 3) := by decide +kernel
theorem dX11_unlike_37 : decode cX11_unlike 37 = .ok (.ifCond .eq 7, 3) := by decide +kernel
theorem dX11_unlike_40 : decode cX11_unlike 40 = .ok (.ldc_w 307, 3) := by decide +kernel
theorem dX11_unlike_43 : decode cX11_unlike 43 = .ok (.ireturn, 1) := by decide +kernel
theorem dX11_unlike_44 : decode cX11_unlike 44 = .ok (.iload_n 3, 1) := by decide +kernel
theorem dX11_unlike_45 : decode cX11_unlike 45 = .ok (.ifCond .ne 10, 3) := by decide +kernel
theorem dX11_unlike_48 : decode cX11_unlike 48 = .ok (.aload_n 0, 1) := by decide +kernel
theorem dX11_unlike_49 : decode cX11_unlike 49 = .ok (.getfield 353, 3) := by decide +kernel
theorem dX11_unlike_52 : decode cX11_unlike 52 = .ok (.goto 19, 3) := by decide +kernel
theorem dX11_unlike_55 : decode cX11_unlike 55 = .ok (.iload_n 3, 1) := by decide +kernel
theorem dX11_unlike_56 : decode cX11_unlike 56 = .ok (.iconst 1, 1) := by decide +kernel
theorem dX11_unlike_57 : decode cX11_unlike 57 = .ok (.if_icmp .ne 10, 3) := by decide +kernel
theorem dX11_unlike_60 : decode cX11_unlike 60 = .ok (.aload_n 0, 1) := by decide +kernel
theorem dX11_unlike_61 : decode cX11_unlike 61 = .ok (.getfield 356, 3) := by decide +kernel
theorem dX11_unlike_64 : decode cX11_unlike 64 = .ok (.goto 7, 3) := by decide +kernel
theorem dX11_unlike_67 : decode cX11_unlike 67 = .ok (.aload_n 0, 1) := by decide +kernel
theorem dX11_unlike_68 : decode cX11_unlike 68 = .ok (.getfield 359, 3) := by decide +kernel
theorem dX11_unlike_71 : decode cX11_unlike 71 = .ok (.ireturn, 1) := by decide +kernel
set_option maxRecDepth 20000 in
theorem ggX11_lacks_X11_isSolid : GoodIn wsX11_lacks wsX11_isSolid := goodIn_r _ [6] (by decide +kernel) (by decide +kernel)
set_option maxRecDepth 20000 in
theorem gX11_lacks_X11_isSolid : GoodIn wsX11_lacks (va_wsS RX11 332 yX11_isSolid wsX11_isSolid) := goodIn_app (goodIn_of _ (by decide +kernel)) ggX11_lacks_X11_isSolid
set_option maxRecDepth 20000 in
theorem ggX11_lacks_X11_volume : GoodIn wsX11_lacks wsX11_volume := goodIn_r _ [10, 11, 12, 13, 14, 15, 5, 16, 17, 18, 19, 20, 21, 22, 23, 24, 25, 26, 27, 28, 29, 30, 31, 32, 33, 34, 35, 36, 37, 38, 39, 40, 41, 42, 43, 44, 45, 46, 47, 48, 49, 50, 51, 52, 53, 54, 55, 56, 57, 58, 59, 60, 61, 62, 63, 64, 65, 66, 67, 68, 69, 70, 71, 72, 73, 74, 75, 76, 77, 78, 79, 80, 81, 82, 83, 84, 85, 86, 87, 88, 89, 90] (by decide +kernel) (by decide +kernel)
set_option maxRecDepth 20000 in
theorem gX11_lacks_X11_volume : GoodIn wsX11_lacks (wsV RX11 337 RX11 yX11_volume wsX11_volume) := goodIn_app (goodIn_of _ (by decide +kernel)) ggX11_lacks_X11_volume
theorem dX11_lacks_0 : decode cX11_lacks 0 = .ok (.aload_n 0, 1) := by decide +kernel
theorem dX11_lacks_1 : decode cX11_lacks 1 = .ok (.iconst 0, 1) := by decide +kernel
theorem dX11_lacks_2 : decode cX11_lacks 2 = .ok (.putfield 106, 3) := by decide +kernel
theorem dX11_lacks_5 : decode cX11_lacks 5 = .ok (.iload_n 1, 1) := by decide +kernel
theorem dX11_lacks_6 : decode cX11_lacks 6 = .ok (.invokestatic 332, 3) := by decide +kernel
theorem dX11_lacks_9 : decode cX11_lacks 9 = .ok (.ifCond .eq 24, 3) := by decide +kernel
theorem dX11_lacks_12 : decode cX11_lacks 12 = .ok (.iload_n 2, 1) := by decide +kernel
theorem dX11_lacks_13 : decode cX11_lacks 13 = .ok (.invokestatic 332, 3) := by decide +kernel
theorem dX11_lacks_16 : decode cX11_lacks 16 = .ok (.ifCond .eq 17, 3) := by decide +kernel
theorem dX11_lacks_19 : decode cX11_lacks 19 = .ok (.aload_n 0, 1) := by decide +kernel
theorem dX11_lacks_20 : decode cX11_lacks 20 = .ok (.iload_n 1, 1) := by decide +kernel
theorem dX11_lacks_21 : decode cX11_lacks 21 = .ok (.invokevirtual 337, 3) := by decide +kernel
theorem dX11_lacks_24 : decode cX11_lacks 24 = .ok (.aload_n 0, 1) := by decide +kernel
theorem dX11_lacks_25 : decode cX11_lacks 25 = .ok (.iload_n 2, 1) := by decide +kernel
theorem dX11_lacks_26 : decode cX11_lacks 26 = .ok (.invokevirtual 337, 3) := by decide +kernel
theorem dX11_lacks_29 : decode cX11_lacks 29 = .ok (.isub, 1) := by decide +kernel
theorem dX11_lacks_30 : decode cX11_lacks 30 = .ok (.goto 6, 3) := by decide +kernel
theorem dX11_lacks_33 : decode cX11_lacks 33 = .ok (.ldc_w 307, 3) := by decide +kernel
theorem dX11_lacks_36 : decode cX11_lacks 36 = .ok (.ireturn, 1) := by decide +kernel
set_option maxRecDepth 20000 in
theorem ggX11_where_X11_isTet : GoodIn wsX11_where wsX11_isTet := goodIn_r _ [6, 7, 49, 50, 51, 52, 53, 54, 55, 56, 57, 58, 59, 60, 61, 62, 63, 64, 65, 66, 67, 68, 69, 70, 71, 72, 73, 74, 75, 76, 77, 78, 79, 80, 81, 82, 83, 84, 85, 86, 87, 88, 89, 90, 91, 92, 93, 94, 95, 96, 97, 98, 99, 100] (by decide +kernel) (by decide +kernel)
set_option maxRecDepth 20000 in
theorem gX11_where_X11_isTet : GoodIn wsX11_where (wsV RX11 295 RX11 yX11_isTet wsX11_isTet) := goodIn_app (goodIn_of _ (by decide +kernel)) ggX11_where_X11_isTet
set_option maxRecDepth 20000 in
theorem ggX11_where_X11_whereIs : GoodIn wsX11_where wsX11_whereIs := goodIn_r _ [11, 12, 13, 14, 15, 16, 5, 17, 18, 19, 20, 21, 22, 23, 24, 25, 26, 27, 28, 29, 30, 31, 32, 33, 34, 35, 36, 37, 38, 39, 40, 41, 42, 43, 44, 45, 46, 47, 48, 49, 50, 51, 52, 53, 54, 55, 56, 57, 58, 59, 60, 61, 62, 63, 64, 65, 66, 67, 68, 69, 70, 71, 72, 73, 74, 75, 76, 77, 78, 79, 80, 81, 82, 83, 84, 85, 86, 87, 88, 89, 90, 91, 92, 93, 94, 95, 96, 97, 98, 99, 100] (by decide +kernel) (by decide +kernel)
set_option maxRecDepth 20000 in
theorem gX11_where_X11_whereIs : GoodIn wsX11_where (wsV RX11 376 RX11 yX11_whereIs wsX11_whereIs) := goodIn_app (goodIn_of _ (by decide +kernel)) ggX11_where_X11_whereIs
theorem dX11_where_0 : decode cX11_where 0 = .ok (.aload_n 0, 1) := by decide +kernel
theorem dX11_where_1 : decode cX11_where 1 = .ok (.iconst 0, 1) := by decide +kernel
theorem dX11_where_2 : decode cX11_where 2 = .ok (.putfield 106, 3) := by decide +kernel
theorem dX11_where_5 : decode cX11_where 5 = .ok (.aload_n 0, 1) := by decide +kernel
theorem dX11_where_6 : decode cX11_where 6 = .ok (.iload_n 1, 1) := by decide +kernel
theorem dX11_where_7 : decode cX11_where 7 = .ok (.invokevirtual 295, 3) := by decide +kernel
theorem dX11_where_10 : decode cX11_where 10 = .ok (.ifCond .eq 15, 3) := by decide +kernel
theorem dX11_where_13 : decode cX11_where 13 = .ok (.aload_n 0, 1) := by decide +kernel
theorem dX11_where_14 : decode cX11_where 14 = .ok (.iload_n 1, 1) := by decide +kernel
theorem dX11_where_15 : decode cX11_where 15 = .ok (.iload_n 2, 1) := by decide +kernel
theorem dX11_where_16 : decode cX11_where 16 = .ok (.iload_n 3, 1) := by decide +kernel
theorem dX11_where_17 : decode cX11_where 17 = .ok (.iload 4, 2) := by decide +kernel
theorem dX11_where_19 : decode cX11_where 19 = .ok (.invokevirtual 376, 3) := by decide +kernel
theorem dX11_where_22 : decode cX11_where 22 = .ok (.goto 4, 3) := by decide +kernel
theorem dX11_where_25 : decode cX11_where 25 = .ok (.iconst (-1), 1) := by decide +kernel
theorem dX11_where_26 : decode cX11_where 26 = .ok (.ireturn, 1) := by decide +kernel
set_option maxRecDepth 20000 in
theorem ggX11_points_X11_isTet : GoodIn wsX11_points wsX11_isTet := goodIn_r _ [6, 7, 49, 50, 51, 52, 53, 54, 55, 56, 57, 58, 59, 60, 61, 62, 63, 64, 65, 66, 67, 68, 69, 70, 71, 72, 73, 74, 75, 76, 77, 78, 79, 80, 81, 82, 83, 84, 85, 86, 87, 88, 89, 90, 91, 92, 93, 94, 95, 96, 97, 98, 99, 100] (by decide +kernel) (by decide +kernel)
set_option maxRecDepth 20000 in
theorem gX11_points_X11_isTet : GoodIn wsX11_points (wsV RX11 295 RX11 yX11_isTet wsX11_isTet) := goodIn_app (goodIn_of _ (by decide +kernel)) ggX11_points_X11_isTet
set_option maxRecDepth 20000 in
theorem ggX11_points_X11_whereIs : GoodIn wsX11_points wsX11_whereIs := goodIn_r _ [11, 12, 13, 14, 15, 16, 5, 17, 18, 19, 20, 21, 22, 23, 24, 25, 26, 27, 28, 29, 30, 31, 32, 33, 34, 35, 36, 37, 38, 39, 40, 41, 42, 43, 44, 45, 46, 47, 48, 49, 50, 51, 52, 53, 54, 55, 56, 57, 58, 59, 60, 61, 62, 63, 64, 65, 66, 67, 68, 69, 70, 71, 72, 73, 74, 75, 76, 77, 78, 79, 80, 81, 82, 83, 84, 85, 86, 87, 88, 89, 90, 91, 92, 93, 94, 95, 96, 97, 98, 99, 100] (by decide +kernel) (by decide +kernel)
set_option maxRecDepth 20000 in
theorem gX11_points_X11_whereIs : GoodIn wsX11_points (wsV RX11 376 RX11 yX11_whereIs wsX11_whereIs) := goodIn_app (goodIn_of _ (by decide +kernel)) ggX11_points_X11_whereIs
theorem dX11_points_0 : decode cX11_points 0 = .ok (.aload_n 0, 1) := by decide +kernel
theorem dX11_points_1 : decode cX11_points 1 = .ok (.iconst 0, 1) := by decide +kernel
theorem dX11_points_2 : decode cX11_points 2 = .ok (.putfield 106, 3) := by decide +kernel
theorem dX11_points_5 : decode cX11_points 5 = .ok (.aload_n 0, 1) := by decide +kernel
theorem dX11_points_6 : decode cX11_points 6 = .ok (.iload_n 1, 1) := by decide +kernel
theorem dX11_points_7 : decode cX11_points 7 = .ok (.invokevirtual 295, 3) := by decide +kernel
theorem dX11_points_10 : decode cX11_points 10 = .ok (.ifCond .ne 5, 3) := by decide +kernel
theorem dX11_points_13 : decode cX11_points 13 = .ok (.iconst (-1), 1) := by decide +kernel
theorem dX11_points_14 : decode cX11_points 14 = .ok (.ireturn, 1) := by decide +kernel
theorem dX11_points_15 : decode cX11_points 15 = .ok (.iconst 0, 1) := by decide +kernel
theorem dX11_points_16 : decode cX11_points 16 = .ok (.istore_n 2, 1) := by decide +kernel
theorem dX11_points_17 : decode cX11_points 17 = .ok (.bipush (-9), 2) := by decide +kernel
theorem dX11_points_19 : decode cX11_points 19 = .ok (.istore_n 3, 1) := by decide +kernel
theorem dX11_points_20 : decode cX11_points 20 = .ok (.iload_n 3, 1) := by decide +kernel
theorem dX11_points_21 : decode cX11_points 21 = .ok (.bipush 9, 2) := by decide +kernel
theorem dX11_points_23 : decode cX11_points 23 = .ok (.if_icmp .gt 64, 3) := by decide +kernel
theorem dX11_points_26 : decode cX11_points 26 = .ok (.bipush (-9), 2) := by decide +kernel
theorem dX11_points_28 : decode cX11_points 28 = .ok (.istore 4, 2) := by decide +kernel
theorem dX11_points_30 : decode cX11_points 30 = .ok (.iload 4, 2) := by decide +kernel
theorem dX11_points_32 : decode cX11_points 32 = .ok (.bipush 9, 2) := by decide +kernel
theorem dX11_points_34 : decode cX11_points 34 = .ok (.if_icmp .gt 47, 3) := by decide +kernel
theorem dX11_points_37 : decode cX11_points 37 = .ok (.bipush (-9), 2) := by decide +kernel
theorem dX11_points_39 : decode cX11_points 39 = .ok (.istore 5, 2) := by decide +kernel
theorem dX11_points_41 : decode cX11_points 41 = .ok (.iload 5, 2) := by decide +kernel
theorem dX11_points_43 : decode cX11_points 43 = .ok (.bipush 9, 2) := by decide +kernel
theorem dX11_points_45 : decode cX11_points 45 = .ok (.if_icmp .gt 30, 3) := by decide +kernel
theorem dX11_points_48 : decode cX11_points 48 = .ok (.iload_n 2, 1) := by decide +kernel
theorem dX11_points_49 : decode cX11_points 49 = .ok (.aload_n 0, 1) := by decide +kernel
theorem dX11_points_50 : decode cX11_points 50 = .ok (.iload_n 1, 1) := by decide +kernel
theorem dX11_points_51 : decode cX11_points 51 = .ok (.iload_n 3, 1) := by decide +kernel
theorem dX11_points_52 : decode cX11_points 52 = .ok (.iload 4, 2) := by decide +kernel
theorem dX11_points_54 : decode cX11_points 54 = .ok (.iload 5, 2) := by decide +kernel
theorem dX11_points_56 : decode cX11_points 56 = .ok (.invokevirtual 376, 3) := by decide +kernel
theorem dX11_points_59 : decode cX11_points 59 = .ok (.ifCond .le 7, 3) := by decide +kernel
theorem dX11_points_62 : decode cX11_points 62 = .ok (.iconst 1, 1) := by decide +kernel
theorem dX11_points_63 : decode cX11_points 63 = .ok (.goto 4, 3) := by decide +kernel
theorem dX11_points_66 : decode cX11_points 66 = .ok (.iconst 0, 1) := by decide +kernel
theorem dX11_points_67 : decode cX11_points 67 = .ok (.iadd, 1) := by decide +kernel
theorem dX11_points_68 : decode cX11_points 68 = .ok (.istore_n 2, 1) := by decide +kernel
theorem dX11_points_69 : decode cX11_points 69 = .ok (.iinc 5 1, 3) := by decide +kernel
theorem dX11_points_72 : decode cX11_points 72 = .ok (.goto (-31), 3) := by decide +kernel
theorem dX11_points_75 : decode cX11_points 75 = .ok (.iinc 4 1, 3) := by decide +kernel
theorem dX11_points_78 : decode cX11_points 78 = .ok (.goto (-48), 3) := by decide +kernel
theorem dX11_points_81 : decode cX11_points 81 = .ok (.iinc 3 1, 3) := by decide +kernel
theorem dX11_points_84 : decode cX11_points 84 = .ok (.goto (-64), 3) := by decide +kernel
theorem dX11_points_87 : decode cX11_points 87 = .ok (.iload_n 2, 1) := by decide +kernel
theorem dX11_points_88 : decode cX11_points 88 = .ok (.ireturn, 1) := by decide +kernel
set_option maxRecDepth 20000 in
theorem ggX11_fairest_X11_isTet : GoodIn wsX11_fairest wsX11_isTet := goodIn_r _ [9, 10, 60, 61, 62, 63, 64, 65, 66, 67, 68, 69, 70, 71, 72, 73, 74, 75, 76, 77, 78, 79, 80, 81, 82, 83, 84, 85, 86, 87, 88, 89, 90, 91, 92, 93, 94, 95, 96, 97, 98, 99, 100, 101, 102, 103, 104, 105, 106, 107, 108, 109, 110, 111] (by decide +kernel) (by decide +kernel)
set_option maxRecDepth 20000 in
theorem gX11_fairest_X11_isTet : GoodIn wsX11_fairest (wsV RX11 295 RX11 yX11_isTet wsX11_isTet) := goodIn_app (goodIn_of _ (by decide +kernel)) ggX11_fairest_X11_isTet
set_option maxRecDepth 20000 in
theorem ggX11_fairest_X11_isIn : GoodIn wsX11_fairest wsX11_isIn := goodIn_r _ [13] (by decide +kernel) (by decide +kernel)
set_option maxRecDepth 20000 in
theorem gX11_fairest_X11_isIn : GoodIn wsX11_fairest (va_wsS RX11 303 yX11_isIn wsX11_isIn) := goodIn_app (goodIn_of _ (by decide +kernel)) ggX11_fairest_X11_isIn
set_option maxRecDepth 20000 in
theorem ggX11_fairest_X11_hasFairest : GoodIn wsX11_fairest wsX11_hasFairest := goodIn_r _ [17, 3, 18, 19, 20, 8, 21, 22, 23, 24, 11, 12, 13, 25, 26, 27, 28, 29, 30, 31, 32, 33, 34, 35, 36, 37, 38, 39, 40, 41, 42, 43, 44, 45, 46, 47, 48, 49, 50, 51, 52, 53, 54, 55, 56, 57, 58, 59, 60, 61, 62, 63, 64, 65, 66, 67, 68, 69, 70, 71, 72, 73, 74, 75, 76, 77, 78, 79, 80, 81, 82, 83, 84, 85, 86, 87, 88, 89, 90, 91, 92, 93, 94, 95, 96, 97, 98, 99, 100, 101, 102, 103, 104, 105, 106, 107, 108, 109, 110, 111] (by decide +kernel) (by decide +kernel)
set_option maxRecDepth 20000 in
theorem gX11_fairest_X11_hasFairest : GoodIn wsX11_fairest (wsV RX11 382 RX11 yX11_hasFairest wsX11_hasFairest) := goodIn_app (goodIn_of _ (by decide +kernel)) ggX11_fairest_X11_hasFairest
theorem dX11_fairest_0 : decode cX11_fairest 0 = .ok (.aload_n 0, 1) := by decide +kernel
theorem dX11_fairest_1 : decode cX11_fairest 1 = .ok (.iconst 0, 1) := by decide +kernel
theorem dX11_fairest_2 : decode cX11_fairest 2 = .ok (.putfield 106, 3) := by decide +kernel
theorem dX11_fairest_5 : decode cX11_fairest 5 = .ok (.aload_n 0, 1) := by decide +kernel
theorem dX11_fairest_6 : decode cX11_fairest 6 = .ok (.iload_n 1, 1) := by decide +kernel
theorem dX11_fairest_7 : decode cX11_fairest 7 = .ok (.invokevirtual 295, 3) := by decide +kernel
theorem dX11_fairest_10 : decode cX11_fairest 10 = .ok (.ifCond .eq 32, 3) := by decide +kernel
theorem dX11_fairest_13 : decode cX11_fairest 13 = .ok (.iload_n 2, 1) := by decide +kernel
theorem dX11_fairest_14 : decode cX11_fairest 14 = .ok (.i2l, 1) := by decide +kernel
theorem dX11_fairest_15 : decode cX11_fairest 15 = .ok (.lconst 0, 1) := by decide +kernel
theorem dX11_fairest_16 : decode cX11_fairest 16 = .ok (.ldc2_w 335, 3) := by decide +kernel
theorem dX11_fairest_19 : decode cX11_fairest 19 = .ok (.invokestatic 303, 3) := by decide +kernel
theorem dX11_fairest_22 : decode cX11_fairest 22 = .ok (.ifCond .eq 20, 3) := by decide +kernel
theorem dX11_fairest_25 : decode cX11_fairest 25 = .ok (.aload_n 0, 1) := by decide +kernel
theorem dX11_fairest_26 : decode cX11_fairest 26 = .ok (.iload_n 1, 1) := by decide +kernel
theorem dX11_fairest_27 : decode cX11_fairest 27 = .ok (.invokevirtual 382, 3) := by decide +kernel
theorem dX11_fairest_30 : decode cX11_fairest 30 = .ok (.ifCond .eq 12, 3) := by decide +kernel
theorem dX11_fairest_33 : decode cX11_fairest 33 = .ok (.aload_n 0, 1) := by decide +kernel
theorem dX11_fairest_34 : decode cX11_fairest 34 = .ok (.getfield 47, 3) := by decide +kernel
theorem dX11_fairest_37 : decode cX11_fairest 37 = .ok (.iload_n 2, 1) := by decide +kernel
theorem dX11_fairest_38 : decode cX11_fairest 38 = .ok (.iaload, 1) := by decide +kernel
theorem dX11_fairest_39 : decode cX11_fairest 39 = .ok (.goto 6, 3) := by decide +kernel
theorem dX11_fairest_42 : decode cX11_fairest 42 = .ok (.ldc_w 307, 3) := by decide +kernel
theorem dX11_fairest_45 : decode cX11_fairest 45 = .ok (.ireturn, 1) := by decide +kernel
set_option maxRecDepth 20000 in
theorem ggX11_cutsTo_X11_isTet : GoodIn wsX11_cutsTo wsX11_isTet := goodIn_r _ [10, 11, 67, 68, 69, 70, 71, 72, 73, 74, 75, 76, 77, 78, 79, 80, 81, 82, 83, 84, 85, 86, 87, 88, 89, 90, 91, 92, 93, 94, 95, 96, 97, 98, 99, 100, 101, 102, 103, 104, 105, 106, 107, 108, 109, 110, 111, 112, 113, 114, 115, 116, 117, 118] (by decide +kernel) (by decide +kernel)
set_option maxRecDepth 20000 in
theorem gX11_cutsTo_X11_isTet : GoodIn wsX11_cutsTo (wsV RX11 295 RX11 yX11_isTet wsX11_isTet) := goodIn_app (goodIn_of _ (by decide +kernel)) ggX11_cutsTo_X11_isTet
set_option maxRecDepth 20000 in
theorem ggX11_cutsTo_X11_six : GoodIn wsX11_cutsTo wsX11_six := goodIn_r _ [15, 16, 17, 18, 19, 20, 21, 22, 9, 23, 24, 25, 26, 27, 28, 29, 30, 31, 3, 32, 33, 34, 35, 36, 37, 67, 68, 69, 70, 71, 72, 73, 74, 75, 76, 77, 78, 79, 80, 81, 82, 83, 84, 85, 86, 87, 88, 89, 90, 91, 92, 93, 94, 95, 96, 97, 98, 99, 100, 101, 102, 103, 104, 105, 106, 107, 108, 109, 110, 111, 112, 113, 114, 115, 116, 117, 118] (by decide +kernel) (by decide +kernel)
set_option maxRecDepth 20000 in
theorem gX11_cutsTo_X11_six : GoodIn wsX11_cutsTo (wsV RX11 261 RX11 yX11_six wsX11_six) := goodIn_app (goodIn_of _ (by decide +kernel)) ggX11_cutsTo_X11_six
set_option maxRecDepth 20000 in
theorem ggX11_cutsTo_X11_hasFairest : GoodIn wsX11_cutsTo wsX11_hasFairest := goodIn_r _ [41, 4, 42, 43, 44, 9, 45, 46, 47, 5, 48, 49, 50, 51, 52, 53, 54, 20, 21, 22, 23, 24, 25, 26, 27, 28, 29, 30, 31, 3, 32, 33, 34, 35, 36, 37, 55, 56, 57, 58, 59, 60, 61, 62, 63, 64, 65, 66, 67, 68, 69, 70, 71, 72, 73, 74, 75, 76, 77, 78, 79, 80, 81, 82, 83, 84, 85, 86, 87, 88, 89, 90, 91, 92, 93, 94, 95, 96, 97, 98, 99, 100, 101, 102, 103, 104, 105, 106, 107, 108, 109, 110, 111, 112, 113, 114, 115, 116, 117, 118] (by decide +kernel) (by decide +kernel)
set_option maxRecDepth 20000 in
theorem gX11_cutsTo_X11_hasFairest : GoodIn wsX11_cutsTo (wsV RX11 382 RX11 yX11_hasFairest wsX11_hasFairest) := goodIn_app (goodIn_of _ (by decide +kernel)) ggX11_cutsTo_X11_hasFairest
set_option maxRecDepth 20000 in
theorem ggX11_cutsTo_X11_laysParts : GoodIn wsX11_cutsTo wsX11_laysParts := goodIn_r _ [54, 5, 20, 21, 22, 9, 23, 24, 25, 26, 27, 28, 29, 30, 31, 3, 32, 33, 34, 35, 36, 37, 55, 56, 57, 58, 59, 60, 61, 62, 67, 68, 69, 70, 71, 72, 73, 74, 75, 76, 77, 78, 79, 80, 81, 82, 83, 84, 85, 86, 87, 88, 89, 90, 91, 92, 93, 94, 95, 96, 97, 98, 99, 100, 101, 102, 103, 104, 105, 106, 107, 108, 109, 110, 111, 112, 113, 114, 115, 116, 117, 118] (by decide +kernel) (by decide +kernel)
set_option maxRecDepth 20000 in
theorem gX11_cutsTo_X11_laysParts : GoodIn wsX11_cutsTo (wsV RX11 373 RX11 yX11_laysParts wsX11_laysParts) := goodIn_app (goodIn_of _ (by decide +kernel)) ggX11_cutsTo_X11_laysParts
set_option maxRecDepth 20000 in
theorem ggX11_cutsTo_X11_copyTet : GoodIn wsX11_cutsTo wsX11_copyTet := goodIn_r _ [58, 3, 67, 68, 69, 70, 71, 72, 73, 74, 75, 76, 77, 78, 79, 80, 81, 82, 83, 84, 85, 86, 87, 88, 89, 90, 91, 92, 93, 94, 95, 96, 97, 98, 99, 100, 101, 102, 103, 104, 105, 106, 107, 108, 109, 110, 111, 112, 113, 114, 115, 116, 117, 118] (by decide +kernel) (by decide +kernel)
set_option maxRecDepth 20000 in
theorem gX11_cutsTo_X11_copyTet : GoodIn wsX11_cutsTo (wsV RX11 366 RX11 yX11_copyTet wsX11_copyTet) := goodIn_app (goodIn_of _ (by decide +kernel)) ggX11_cutsTo_X11_copyTet
set_option maxRecDepth 20000 in
theorem ggX11_cutsTo_X11_lays : GoodIn wsX11_cutsTo wsX11_lays := goodIn_r _ [62, 3, 32, 33, 9, 34, 67, 68, 69, 70, 71, 72, 73, 74, 75, 76, 77, 78, 79, 80, 81, 82, 83, 84, 85, 86, 87, 88, 89, 90, 91, 92, 93, 94, 95, 96, 97, 98, 99, 100, 101, 102, 103, 104, 105, 106, 107, 108, 109, 110, 111, 112, 113, 114, 115, 116, 117, 118] (by decide +kernel) (by decide +kernel)
set_option maxRecDepth 20000 in
theorem gX11_cutsTo_X11_lays : GoodIn wsX11_cutsTo (wsV RX11 220 RX11 yX11_lays wsX11_lays) := goodIn_app (goodIn_of _ (by decide +kernel)) ggX11_cutsTo_X11_lays
theorem dX11_cutsTo_0 : decode cX11_cutsTo 0 = .ok (.aload_n 0, 1) := by decide +kernel
theorem dX11_cutsTo_1 : decode cX11_cutsTo 1 = .ok (.iconst 0, 1) := by decide +kernel
theorem dX11_cutsTo_2 : decode cX11_cutsTo 2 = .ok (.putfield 106, 3) := by decide +kernel
theorem dX11_cutsTo_5 : decode cX11_cutsTo 5 = .ok (.aload_n 0, 1) := by decide +kernel
theorem dX11_cutsTo_6 : decode cX11_cutsTo 6 = .ok (.iload_n 1, 1) := by decide +kernel
theorem dX11_cutsTo_7 : decode cX11_cutsTo 7 = .ok (.invokevirtual 295, 3) := by decide +kernel
theorem dX11_cutsTo_10 : decode cX11_cutsTo 10 = .ok (.ifCond .eq 8, 3) := by decide +kernel
theorem dX11_cutsTo_13 : decode cX11_cutsTo 13 = .ok (.iload_n 2, 1) := by decide +kernel
theorem dX11_cutsTo_14 : decode cX11_cutsTo 14 = .ok (.iconst 1, 1) := by decide +kernel
theorem dX11_cutsTo_15 : decode cX11_cutsTo 15 = .ok (.if_icmp .ge 5, 3) := by decide +kernel
theorem dX11_cutsTo_18 : decode cX11_cutsTo 18 = .ok (.iconst (-1), 1) := by decide +kernel
theorem dX11_cutsTo_19 : decode cX11_cutsTo 19 = .ok (.ireturn, 1) := by decide +kernel
theorem dX11_cutsTo_20 : decode cX11_cutsTo 20 = .ok (.iconst 1, 1) := by decide +kernel
theorem dX11_cutsTo_21 : decode cX11_cutsTo 21 = .ok (.istore_n 3, 1) := by decide +kernel
theorem dX11_cutsTo_22 : decode cX11_cutsTo 22 = .ok (.iconst 0, 1) := by decide +kernel
theorem dX11_cutsTo_23 : decode cX11_cutsTo 23 = .ok (.istore 4, 2) := by decide +kernel
theorem dX11_cutsTo_25 : decode cX11_cutsTo 25 = .ok (.iconst 0, 1) := by decide +kernel
theorem dX11_cutsTo_26 : decode cX11_cutsTo 26 = .ok (.istore 5, 2) := by decide +kernel
theorem dX11_cutsTo_28 : decode cX11_cutsTo 28 = .ok (.iload 5, 2) := by decide +kernel
theorem dX11_cutsTo_30 : decode cX11_cutsTo 30 = .ok (.bipush 12, 2) := by decide +kernel
theorem dX11_cutsTo_32 : decode cX11_cutsTo 32 = .ok (.if_icmp .ge 30, 3) := by decide +kernel
theorem dX11_cutsTo_35 : decode cX11_cutsTo 35 = .ok (.aload_n 0, 1) := by decide +kernel
theorem dX11_cutsTo_36 : decode cX11_cutsTo 36 = .ok (.getfield 50, 3) := by decide +kernel
theorem dX11_cutsTo_39 : decode cX11_cutsTo 39 = .ok (.iload 5, 2) := by decide +kernel
theorem dX11_cutsTo_41 : decode cX11_cutsTo 41 = .ok (.aload_n 0, 1) := by decide +kernel
theorem dX11_cutsTo_42 : decode cX11_cutsTo 42 = .ok (.getfield 17, 3) := by decide +kernel
theorem dX11_cutsTo_45 : decode cX11_cutsTo 45 = .ok (.bipush 13, 2) := by decide +kernel
theorem dX11_cutsTo_47 : decode cX11_cutsTo 47 = .ok (.iload_n 1, 1) := by decide +kernel
theorem dX11_cutsTo_48 : decode cX11_cutsTo 48 = .ok (.imul, 1) := by decide +kernel
theorem dX11_cutsTo_49 : decode cX11_cutsTo 49 = .ok (.iconst 1, 1) := by decide +kernel
theorem dX11_cutsTo_50 : decode cX11_cutsTo 50 = .ok (.iadd, 1) := by decide +kernel
theorem dX11_cutsTo_51 : decode cX11_cutsTo 51 = .ok (.iload 5, 2) := by decide +kernel
theorem dX11_cutsTo_53 : decode cX11_cutsTo 53 = .ok (.iadd, 1) := by decide +kernel
theorem dX11_cutsTo_54 : decode cX11_cutsTo 54 = .ok (.iaload, 1) := by decide +kernel
theorem dX11_cutsTo_55 : decode cX11_cutsTo 55 = .ok (.iastore, 1) := by decide +kernel
theorem dX11_cutsTo_56 : decode cX11_cutsTo 56 = .ok (.iinc 5 1, 3) := by decide +kernel
theorem dX11_cutsTo_59 : decode cX11_cutsTo 59 = .ok (.goto (-31), 3) := by decide +kernel
theorem dX11_cutsTo_62 : decode cX11_cutsTo 62 = .ok (.iload_n 3, 1) := by decide +kernel
theorem dX11_cutsTo_63 : decode cX11_cutsTo 63 = .ok (.ifCond .le 210, 3) := by decide +kernel
theorem dX11_cutsTo_66 : decode cX11_cutsTo 66 = .ok (.iinc 3 (-1), 3) := by decide +kernel
theorem dX11_cutsTo_69 : decode cX11_cutsTo 69 = .ok (.iconst 0, 1) := by decide +kernel
theorem dX11_cutsTo_70 : decode cX11_cutsTo 70 = .ok (.istore 5, 2) := by decide +kernel
theorem dX11_cutsTo_72 : decode cX11_cutsTo 72 = .ok (.iload 5, 2) := by decide +kernel
theorem dX11_cutsTo_74 : decode cX11_cutsTo 74 = .ok (.bipush 12, 2) := by decide +kernel
theorem dX11_cutsTo_76 : decode cX11_cutsTo 76 = .ok (.if_icmp .ge 32, 3) := by decide +kernel
theorem dX11_cutsTo_79 : decode cX11_cutsTo 79 = .ok (.aload_n 0, 1) := by decide +kernel
theorem dX11_cutsTo_80 : decode cX11_cutsTo 80 = .ok (.getfield 17, 3) := by decide +kernel
theorem dX11_cutsTo_83 : decode cX11_cutsTo 83 = .ok (.sipush 651, 3) := by decide +kernel
theorem dX11_cutsTo_86 : decode cX11_cutsTo 86 = .ok (.iload 5, 2) := by decide +kernel
theorem dX11_cutsTo_88 : decode cX11_cutsTo 88 = .ok (.iadd, 1) := by decide +kernel
theorem dX11_cutsTo_89 : decode cX11_cutsTo 89 = .ok (.aload_n 0, 1) := by decide +kernel
theorem dX11_cutsTo_90 : decode cX11_cutsTo 90 = .ok (.getfield 50, 3) := by decide +kernel
theorem dX11_cutsTo_93 : decode cX11_cutsTo 93 = .ok (.bipush 12, 2) := by decide +kernel
theorem dX11_cutsTo_95 : decode cX11_cutsTo 95 = .ok (.iload_n 3, 1) := by decide +kernel
theorem dX11_cutsTo_96 : decode cX11_cutsTo 96 = .ok (.imul, 1) := by decide +kernel
theorem dX11_cutsTo_97 : decode cX11_cutsTo 97 = .ok (.iload 5, 2) := by decide +kernel
theorem dX11_cutsTo_99 : decode cX11_cutsTo 99 = .ok (.iadd, 1) := by decide +kernel
theorem dX11_cutsTo_100 : decode cX11_cutsTo 100 = .ok (.iaload, 1) := by decide +kernel
theorem dX11_cutsTo_101 : decode cX11_cutsTo 101 = .ok (.iastore, 1) := by decide +kernel
theorem dX11_cutsTo_102 : decode cX11_cutsTo 102 = .ok (.iinc 5 1, 3) := by decide +kernel
theorem dX11_cutsTo_105 : decode cX11_cutsTo 105 = .ok (.goto (-33), 3) := by decide +kernel
theorem dX11_cutsTo_108 : decode cX11_cutsTo 108 = .ok (.aload_n 0, 1) := by decide +kernel
theorem dX11_cutsTo_109 : decode cX11_cutsTo 109 = .ok (.bipush 50, 2) := by decide +kernel
theorem dX11_cutsTo_111 : decode cX11_cutsTo 111 = .ok (.invokevirtual 261, 3) := by decide +kernel
theorem dX11_cutsTo_114 : decode cX11_cutsTo 114 = .ok (.iload_n 2, 1) := by decide +kernel
theorem dX11_cutsTo_115 : decode cX11_cutsTo 115 = .ok (.if_icmp .gt 6, 3) := by decide +kernel
theorem dX11_cutsTo_118 : decode cX11_cutsTo 118 = .ok (.goto (-56), 3) := by decide +kernel
theorem dX11_cutsTo_121 : decode cX11_cutsTo 121 = .ok (.iload 4, 2) := by decide +kernel
theorem dX11_cutsTo_123 : decode cX11_cutsTo 123 = .ok (.bipush 40, 2) := by decide +kernel
theorem dX11_cutsTo_125 : decode cX11_cutsTo 125 = .ok (.if_icmp .eq 12, 3) := by decide +kernel
theorem dX11_cutsTo_128 : decode cX11_cutsTo 128 = .ok (.aload_n 0, 1) := by decide +kernel
theorem dX11_cutsTo_129 : decode cX11_cutsTo 129 = .ok (.bipush 50, 2) := by decide +kernel
theorem dX11_cutsTo_131 : decode cX11_cutsTo 131 = .ok (.invokevirtual 382, 3) := by decide +kernel
theorem dX11_cutsTo_134 : decode cX11_cutsTo 134 = .ok (.ifCond .ne 5, 3) := by decide +kernel
theorem dX11_cutsTo_137 : decode cX11_cutsTo 137 = .ok (.iconst (-1), 1) := by decide +kernel
theorem dX11_cutsTo_138 : decode cX11_cutsTo 138 = .ok (.ireturn, 1) := by decide +kernel
theorem dX11_cutsTo_139 : decode cX11_cutsTo 139 = .ok (.iinc 4 1, 3) := by decide +kernel
theorem dX11_cutsTo_142 : decode cX11_cutsTo 142 = .ok (.aload_n 0, 1) := by decide +kernel
theorem dX11_cutsTo_143 : decode cX11_cutsTo 143 = .ok (.bipush 50, 2) := by decide +kernel
theorem dX11_cutsTo_145 : decode cX11_cutsTo 145 = .ok (.aload_n 0, 1) := by decide +kernel
theorem dX11_cutsTo_146 : decode cX11_cutsTo 146 = .ok (.getfield 47, 3) := by decide +kernel
theorem dX11_cutsTo_149 : decode cX11_cutsTo 149 = .ok (.iconst 0, 1) := by decide +kernel
theorem dX11_cutsTo_150 : decode cX11_cutsTo 150 = .ok (.iaload, 1) := by decide +kernel
theorem dX11_cutsTo_151 : decode cX11_cutsTo 151 = .ok (.aload_n 0, 1) := by decide +kernel
theorem dX11_cutsTo_152 : decode cX11_cutsTo 152 = .ok (.getfield 47, 3) := by decide +kernel
theorem dX11_cutsTo_155 : decode cX11_cutsTo 155 = .ok (.iconst 1, 1) := by decide +kernel
theorem dX11_cutsTo_156 : decode cX11_cutsTo 156 = .ok (.iaload, 1) := by decide +kernel
theorem dX11_cutsTo_157 : decode cX11_cutsTo 157 = .ok (.aload_n 0, 1) := by decide +kernel
theorem dX11_cutsTo_158 : decode cX11_cutsTo 158 = .ok (.getfield 47, 3) := by decide +kernel
theorem dX11_cutsTo_161 : decode cX11_cutsTo 161 = .ok (.iconst 2, 1) := by decide +kernel
theorem dX11_cutsTo_162 : decode cX11_cutsTo 162 = .ok (.iaload, 1) := by decide +kernel
theorem dX11_cutsTo_163 : decode cX11_cutsTo 163 = .ok (.invokevirtual 373, 3) := by decide +kernel
theorem dX11_cutsTo_166 : decode cX11_cutsTo 166 = .ok (.iconst 0, 1) := by decide +kernel
theorem dX11_cutsTo_167 : decode cX11_cutsTo 167 = .ok (.istore 5, 2) := by decide +kernel
theorem dX11_cutsTo_169 : decode cX11_cutsTo 169 = .ok (.iload 5, 2) := by decide +kernel
theorem dX11_cutsTo_171 : decode cX11_cutsTo 171 = .ok (.iconst 4, 1) := by decide +kernel
theorem dX11_cutsTo_172 : decode cX11_cutsTo 172 = .ok (.if_icmp .ge 98, 3) := by decide +kernel
theorem dX11_cutsTo_175 : decode cX11_cutsTo 175 = .ok (.aload_n 0, 1) := by decide +kernel
theorem dX11_cutsTo_176 : decode cX11_cutsTo 176 = .ok (.getfield 44, 3) := by decide +kernel
theorem dX11_cutsTo_179 : decode cX11_cutsTo 179 = .ok (.iload 5, 2) := by decide +kernel
theorem dX11_cutsTo_181 : decode cX11_cutsTo 181 = .ok (.iaload, 1) := by decide +kernel
theorem dX11_cutsTo_182 : decode cX11_cutsTo 182 = .ok (.ifCond .ne 6, 3) := by decide +kernel
theorem dX11_cutsTo_185 : decode cX11_cutsTo 185 = .ok (.goto 79, 3) := by decide +kernel
theorem dX11_cutsTo_188 : decode cX11_cutsTo 188 = .ok (.aload_n 0, 1) := by decide +kernel
theorem dX11_cutsTo_189 : decode cX11_cutsTo 189 = .ok (.bipush 50, 2) := by decide +kernel
theorem dX11_cutsTo_191 : decode cX11_cutsTo 191 = .ok (.bipush 51, 2) := by decide +kernel
theorem dX11_cutsTo_193 : decode cX11_cutsTo 193 = .ok (.invokevirtual 366, 3) := by decide +kernel
theorem dX11_cutsTo_196 : decode cX11_cutsTo 196 = .ok (.aload_n 0, 1) := by decide +kernel
theorem dX11_cutsTo_197 : decode cX11_cutsTo 197 = .ok (.bipush 51, 2) := by decide +kernel
theorem dX11_cutsTo_199 : decode cX11_cutsTo 199 = .ok (.iload 5, 2) := by decide +kernel
theorem dX11_cutsTo_201 : decode cX11_cutsTo 201 = .ok (.aload_n 0, 1) := by decide +kernel
theorem dX11_cutsTo_202 : decode cX11_cutsTo 202 = .ok (.getfield 47, 3) := by decide +kernel
theorem dX11_cutsTo_205 : decode cX11_cutsTo 205 = .ok (.iconst 0, 1) := by decide +kernel
theorem dX11_cutsTo_206 : decode cX11_cutsTo 206 = .ok (.iaload, 1) := by decide +kernel
theorem dX11_cutsTo_207 : decode cX11_cutsTo 207 = .ok (.aload_n 0, 1) := by decide +kernel
theorem dX11_cutsTo_208 : decode cX11_cutsTo 208 = .ok (.getfield 47, 3) := by decide +kernel
theorem dX11_cutsTo_211 : decode cX11_cutsTo 211 = .ok (.iconst 1, 1) := by decide +kernel
theorem dX11_cutsTo_212 : decode cX11_cutsTo 212 = .ok (.iaload, 1) := by decide +kernel
theorem dX11_cutsTo_213 : decode cX11_cutsTo 213 = .ok (.aload_n 0, 1) := by decide +kernel
theorem dX11_cutsTo_214 : decode cX11_cutsTo 214 = .ok (.getfield 47, 3) := by decide +kernel
theorem dX11_cutsTo_217 : decode cX11_cutsTo 217 = .ok (.iconst 2, 1) := by decide +kernel
theorem dX11_cutsTo_218 : decode cX11_cutsTo 218 = .ok (.iaload, 1) := by decide +kernel
theorem dX11_cutsTo_219 : decode cX11_cutsTo 219 = .ok (.invokevirtual 220, 3) := by decide +kernel
theorem dX11_cutsTo_222 : decode cX11_cutsTo 222 = .ok (.iconst 0, 1) := by decide +kernel
theorem dX11_cutsTo_223 : decode cX11_cutsTo 223 = .ok (.istore 6, 2) := by decide +kernel
theorem dX11_cutsTo_225 : decode cX11_cutsTo 225 = .ok (.iload 6, 2) := by decide +kernel
theorem dX11_cutsTo_227 : decode cX11_cutsTo 227 = .ok (.bipush 12, 2) := by decide +kernel
theorem dX11_cutsTo_229 : decode cX11_cutsTo 229 = .ok (.if_icmp .ge 32, 3) := by decide +kernel
theorem dX11_cutsTo_232 : decode cX11_cutsTo 232 = .ok (.aload_n 0, 1) := by decide +kernel
theorem dX11_cutsTo_233 : decode cX11_cutsTo 233 = .ok (.getfield 50, 3) := by decide +kernel
theorem dX11_cutsTo_236 : decode cX11_cutsTo 236 = .ok (.bipush 12, 2) := by decide +kernel
theorem dX11_cutsTo_238 : decode cX11_cutsTo 238 = .ok (.iload_n 3, 1) := by decide +kernel
theorem dX11_cutsTo_239 : decode cX11_cutsTo 239 = .ok (.imul, 1) := by decide +kernel
theorem dX11_cutsTo_240 : decode cX11_cutsTo 240 = .ok (.iload 6, 2) := by decide +kernel
theorem dX11_cutsTo_242 : decode cX11_cutsTo 242 = .ok (.iadd, 1) := by decide +kernel
theorem dX11_cutsTo_243 : decode cX11_cutsTo 243 = .ok (.aload_n 0, 1) := by decide +kernel
theorem dX11_cutsTo_244 : decode cX11_cutsTo 244 = .ok (.getfield 17, 3) := by decide +kernel
theorem dX11_cutsTo_247 : decode cX11_cutsTo 247 = .ok (.sipush 664, 3) := by decide +kernel
theorem dX11_cutsTo_250 : decode cX11_cutsTo 250 = .ok (.iload 6, 2) := by decide +kernel
theorem dX11_cutsTo_252 : decode cX11_cutsTo 252 = .ok (.iadd, 1) := by decide +kernel
theorem dX11_cutsTo_253 : decode cX11_cutsTo 253 = .ok (.iaload, 1) := by decide +kernel
theorem dX11_cutsTo_254 : decode cX11_cutsTo 254 = .ok (.iastore, 1) := by decide +kernel
theorem dX11_cutsTo_255 : decode cX11_cutsTo 255 = .ok (.iinc 6 1, 3) := by decide +kernel
theorem dX11_cutsTo_258 : decode cX11_cutsTo 258 = .ok (.goto (-33), 3) := by decide +kernel
theorem dX11_cutsTo_261 : decode cX11_cutsTo 261 = .ok (.iinc 3 1, 3) := by decide +kernel
theorem dX11_cutsTo_264 : decode cX11_cutsTo 264 = .ok (.iinc 5 1, 3) := by decide +kernel
theorem dX11_cutsTo_267 : decode cX11_cutsTo 267 = .ok (.goto (-98), 3) := by decide +kernel
theorem dX11_cutsTo_270 : decode cX11_cutsTo 270 = .ok (.goto (-208), 3) := by decide +kernel
theorem dX11_cutsTo_273 : decode cX11_cutsTo 273 = .ok (.iload 4, 2) := by decide +kernel
theorem dX11_cutsTo_275 : decode cX11_cutsTo 275 = .ok (.ireturn, 1) := by decide +kernel
set_option maxRecDepth 20000 in
theorem ggX11_cut_X11_isTet : GoodIn wsX11_cut wsX11_isTet := goodIn_r _ [11, 4, 50, 51, 52, 53, 54, 55, 56, 57, 58, 59, 60, 61, 62, 63, 64, 65, 66, 67, 68, 69, 70, 71, 72, 73, 74, 75, 76, 77, 78, 79, 80, 81, 82, 83, 84, 85, 86, 87, 88, 89, 90, 91, 92, 93, 94, 95, 96, 97, 98, 99, 100, 101] (by decide +kernel) (by decide +kernel)
set_option maxRecDepth 20000 in
theorem gX11_cut_X11_isTet : GoodIn wsX11_cut (wsV RX11 295 RX11 yX11_isTet wsX11_isTet) := goodIn_app (goodIn_of _ (by decide +kernel)) ggX11_cut_X11_isTet
set_option maxRecDepth 20000 in
theorem ggX11_cut_X11_isIn : GoodIn wsX11_cut wsX11_isIn := goodIn_r _ [14] (by decide +kernel) (by decide +kernel)
set_option maxRecDepth 20000 in
theorem gX11_cut_X11_isIn : GoodIn wsX11_cut (va_wsS RX11 303 yX11_isIn wsX11_isIn) := goodIn_app (goodIn_of _ (by decide +kernel)) ggX11_cut_X11_isIn
set_option maxRecDepth 20000 in
theorem ggX11_cut_X11_whereIs : GoodIn wsX11_cut wsX11_whereIs := goodIn_r _ [18, 2, 3, 5, 12, 13, 10, 14, 19, 20, 21, 22, 23, 24, 25, 26, 27, 28, 29, 30, 31, 32, 33, 34, 35, 36, 37, 38, 39, 40, 41, 42, 43, 44, 45, 46, 47, 48, 49, 50, 51, 52, 53, 54, 55, 56, 57, 58, 59, 60, 61, 62, 63, 64, 65, 66, 67, 68, 69, 70, 71, 72, 73, 74, 75, 76, 77, 78, 79, 80, 81, 82, 83, 84, 85, 86, 87, 88, 89, 90, 91, 92, 93, 94, 95, 96, 97, 98, 99, 100, 101] (by decide +kernel) (by decide +kernel)
set_option maxRecDepth 20000 in
theorem gX11_cut_X11_whereIs : GoodIn wsX11_cut (wsV RX11 376 RX11 yX11_whereIs wsX11_whereIs) := goodIn_app (goodIn_of _ (by decide +kernel)) ggX11_cut_X11_whereIs
set_option maxRecDepth 20000 in
theorem ggX11_cut_X11_copyTet : GoodIn wsX11_cut wsX11_copyTet := goodIn_r _ [45, 35, 50, 51, 52, 53, 54, 55, 56, 57, 58, 59, 60, 61, 62, 63, 64, 65, 66, 67, 68, 69, 70, 71, 72, 73, 74, 75, 76, 77, 78, 79, 80, 81, 82, 83, 84, 85, 86, 87, 88, 89, 90, 91, 92, 93, 94, 95, 96, 97, 98, 99, 100, 101] (by decide +kernel) (by decide +kernel)
set_option maxRecDepth 20000 in
theorem gX11_cut_X11_copyTet : GoodIn wsX11_cut (wsV RX11 366 RX11 yX11_copyTet wsX11_copyTet) := goodIn_app (goodIn_of _ (by decide +kernel)) ggX11_cut_X11_copyTet
set_option maxRecDepth 20000 in
theorem ggX11_cut_X11_lays : GoodIn wsX11_cut wsX11_lays := goodIn_r _ [49, 35, 36, 37, 10, 38, 50, 51, 52, 53, 54, 55, 56, 57, 58, 59, 60, 61, 62, 63, 64, 65, 66, 67, 68, 69, 70, 71, 72, 73, 74, 75, 76, 77, 78, 79, 80, 81, 82, 83, 84, 85, 86, 87, 88, 89, 90, 91, 92, 93, 94, 95, 96, 97, 98, 99, 100, 101] (by decide +kernel) (by decide +kernel)
set_option maxRecDepth 20000 in
theorem gX11_cut_X11_lays : GoodIn wsX11_cut (wsV RX11 220 RX11 yX11_lays wsX11_lays) := goodIn_app (goodIn_of _ (by decide +kernel)) ggX11_cut_X11_lays
theorem dX11_cut_0 : decode cX11_cut 0 = .ok (.aload_n 0, 1) := by decide +kernel
theorem dX11_cut_1 : decode cX11_cut 1 = .ok (.iconst 0, 1) := by decide +kernel
theorem dX11_cut_2 : decode cX11_cut 2 = .ok (.putfield 106, 3) := by decide +kernel
theorem dX11_cut_5 : decode cX11_cut 5 = .ok (.aload_n 0, 1) := by decide +kernel
theorem dX11_cut_6 : decode cX11_cut 6 = .ok (.iload_n 1, 1) := by decide +kernel
theorem dX11_cut_7 : decode cX11_cut 7 = .ok (.invokevirtual 295, 3) := by decide +kernel
theorem dX11_cut_10 : decode cX11_cut 10 = .ok (.ifCond .ne 5, 3) := by decide +kernel
theorem dX11_cut_13 : decode cX11_cut 13 = .ok (.iconst (-1), 1) := by decide +kernel
theorem dX11_cut_14 : decode cX11_cut 14 = .ok (.ireturn, 1) := by decide +kernel
theorem dX11_cut_15 : decode cX11_cut 15 = .ok (.iload_n 2, 1) := by decide +kernel
theorem dX11_cut_16 : decode cX11_cut 16 = .ok (.i2l, 1) := by decide +kernel
theorem dX11_cut_17 : decode cX11_cut 17 = .ok (.ldc2_w 369, 3) := by decide +kernel
theorem dX11_cut_20 : decode cX11_cut 20 = .ok (.ldc2_w 371, 3) := by decide +kernel
theorem dX11_cut_23 : decode cX11_cut 23 = .ok (.invokestatic 303, 3) := by decide +kernel
theorem dX11_cut_26 : decode cX11_cut 26 = .ok (.ifCond .eq 32, 3) := by decide +kernel
theorem dX11_cut_29 : decode cX11_cut 29 = .ok (.iload_n 3, 1) := by decide +kernel
theorem dX11_cut_30 : decode cX11_cut 30 = .ok (.i2l, 1) := by decide +kernel
theorem dX11_cut_31 : decode cX11_cut 31 = .ok (.ldc2_w 369, 3) := by decide +kernel
theorem dX11_cut_34 : decode cX11_cut 34 = .ok (.ldc2_w 371, 3) := by decide +kernel
theorem dX11_cut_37 : decode cX11_cut 37 = .ok (.invokestatic 303, 3) := by decide +kernel
theorem dX11_cut_40 : decode cX11_cut 40 = .ok (.ifCond .eq 18, 3) := by decide +kernel
theorem dX11_cut_43 : decode cX11_cut 43 = .ok (.iload 4, 2) := by decide +kernel
theorem dX11_cut_45 : decode cX11_cut 45 = .ok (.i2l, 1) := by decide +kernel
theorem dX11_cut_46 : decode cX11_cut 46 = .ok (.ldc2_w 369, 3) := by decide +kernel
theorem dX11_cut_49 : decode cX11_cut 49 = .ok (.ldc2_w 371, 3) := by decide +kernel
theorem dX11_cut_52 : decode cX11_cut 52 = .ok (.invokestatic 303, 3) := by decide +kernel
theorem dX11_cut_55 : decode cX11_cut 55 = .ok (.ifCond .ne 6, 3) := by decide +kernel
theorem dX11_cut_58 : decode cX11_cut 58 = .ok (.bipush (-2), 2) := by decide +kernel
theorem dX11_cut_60 : decode cX11_cut 60 = .ok (.ireturn, 1) := by decide +kernel
theorem dX11_cut_61 : decode cX11_cut 61 = .ok (.aload_n 0, 1) := by decide +kernel
theorem dX11_cut_62 : decode cX11_cut 62 = .ok (.iload_n 1, 1) := by decide +kernel
theorem dX11_cut_63 : decode cX11_cut 63 = .ok (.iload_n 2, 1) := by decide +kernel
theorem dX11_cut_64 : decode cX11_cut 64 = .ok (.iload_n 3, 1) := by decide +kernel
theorem dX11_cut_65 : decode cX11_cut 65 = .ok (.iload 4, 2) := by decide +kernel
theorem dX11_cut_67 : decode cX11_cut 67 = .ok (.invokevirtual 376, 3) := by decide +kernel
theorem dX11_cut_70 : decode cX11_cut 70 = .ok (.istore 5, 2) := by decide +kernel
theorem dX11_cut_72 : decode cX11_cut 72 = .ok (.iload 5, 2) := by decide +kernel
theorem dX11_cut_74 : decode cX11_cut 74 = .ok (.iconst 2, 1) := by decide +kernel
theorem dX11_cut_75 : decode cX11_cut 75 = .ok (.if_icmp .ge 6, 3) := by decide +kernel
theorem dX11_cut_78 : decode cX11_cut 78 = .ok (.bipush (-3), 2) := by decide +kernel
theorem dX11_cut_80 : decode cX11_cut 80 = .ok (.ireturn, 1) := by decide +kernel
theorem dX11_cut_81 : decode cX11_cut 81 = .ok (.aload_n 0, 1) := by decide +kernel
theorem dX11_cut_82 : decode cX11_cut 82 = .ok (.getfield 191, 3) := by decide +kernel
theorem dX11_cut_85 : decode cX11_cut 85 = .ok (.iload 5, 2) := by decide +kernel
theorem dX11_cut_87 : decode cX11_cut 87 = .ok (.iadd, 1) := by decide +kernel
theorem dX11_cut_88 : decode cX11_cut 88 = .ok (.iconst 1, 1) := by decide +kernel
theorem dX11_cut_89 : decode cX11_cut 89 = .ok (.isub, 1) := by decide +kernel
theorem dX11_cut_90 : decode cX11_cut 90 = .ok (.bipush 48, 2) := by decide +kernel
theorem dX11_cut_92 : decode cX11_cut 92 = .ok (.if_icmp .le 6, 3) := by decide +kernel
theorem dX11_cut_95 : decode cX11_cut 95 = .ok (.bipush (-4), 2) := by decide +kernel
theorem dX11_cut_97 : decode cX11_cut 97 = .ok (.ireturn, 1) := by decide +kernel
theorem dX11_cut_98 : decode cX11_cut 98 = .ok (.aload_n 0, 1) := by decide +kernel
theorem dX11_cut_99 : decode cX11_cut 99 = .ok (.iload_n 1, 1) := by decide +kernel
theorem dX11_cut_100 : decode cX11_cut 100 = .ok (.bipush 48, 2) := by decide +kernel
theorem dX11_cut_102 : decode cX11_cut 102 = .ok (.invokevirtual 366, 3) := by decide +kernel
theorem dX11_cut_105 : decode cX11_cut 105 = .ok (.iconst 1, 1) := by decide +kernel
theorem dX11_cut_106 : decode cX11_cut 106 = .ok (.istore 6, 2) := by decide +kernel
theorem dX11_cut_108 : decode cX11_cut 108 = .ok (.iconst 0, 1) := by decide +kernel
theorem dX11_cut_109 : decode cX11_cut 109 = .ok (.istore 7, 2) := by decide +kernel
theorem dX11_cut_111 : decode cX11_cut 111 = .ok (.iload 7, 2) := by decide +kernel
theorem dX11_cut_113 : decode cX11_cut 113 = .ok (.iconst 4, 1) := by decide +kernel
theorem dX11_cut_114 : decode cX11_cut 114 = .ok (.if_icmp .ge 75, 3) := by decide +kernel
theorem dX11_cut_117 : decode cX11_cut 117 = .ok (.aload_n 0, 1) := by decide +kernel
theorem dX11_cut_118 : decode cX11_cut 118 = .ok (.getfield 44, 3) := by decide +kernel
theorem dX11_cut_121 : decode cX11_cut 121 = .ok (.iload 7, 2) := by decide +kernel
theorem dX11_cut_123 : decode cX11_cut 123 = .ok (.iaload, 1) := by decide +kernel
theorem dX11_cut_124 : decode cX11_cut 124 = .ok (.ifCond .ne 6, 3) := by decide +kernel
theorem dX11_cut_127 : decode cX11_cut 127 = .ok (.goto 56, 3) := by decide +kernel
theorem dX11_cut_130 : decode cX11_cut 130 = .ok (.iload 6, 2) := by decide +kernel
theorem dX11_cut_132 : decode cX11_cut 132 = .ok (.ifCond .eq 7, 3) := by decide +kernel
theorem dX11_cut_135 : decode cX11_cut 135 = .ok (.iload_n 1, 1) := by decide +kernel
theorem dX11_cut_136 : decode cX11_cut 136 = .ok (.goto 7, 3) := by decide +kernel
theorem dX11_cut_139 : decode cX11_cut 139 = .ok (.aload_n 0, 1) := by decide +kernel
theorem dX11_cut_140 : decode cX11_cut 140 = .ok (.getfield 191, 3) := by decide +kernel
theorem dX11_cut_143 : decode cX11_cut 143 = .ok (.istore 8, 2) := by decide +kernel
theorem dX11_cut_145 : decode cX11_cut 145 = .ok (.aload_n 0, 1) := by decide +kernel
theorem dX11_cut_146 : decode cX11_cut 146 = .ok (.bipush 48, 2) := by decide +kernel
theorem dX11_cut_148 : decode cX11_cut 148 = .ok (.iload 8, 2) := by decide +kernel
